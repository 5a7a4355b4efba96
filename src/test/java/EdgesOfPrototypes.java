/** Promises 2 and 16: "an OBJECT or -1, else IllegalArgumentException"; promise 15; "as a prototype: null". */
public final class EdgesOfPrototypes {
    private static final int[] REFUSED = {0, 1, 999, 1000, 1249, 1250, World.FIRST_THAT_IS_NONE, -601, -602,
        Integer.MAX_VALUE, Integer.MAX_VALUE - 1, Integer.MIN_VALUE, Integer.MIN_VALUE + 1};

    public static void main(String[] args) {
        Check t = new Check();
        taken(t);
        refused(t);
        circles(t);
        longChain(t);
        givenByTraps(t);
        notExtensible(t);
        t.end();
    }

    private static void taken(Check t) {
        ObjectRules x = World.make();
        for (int v : new int[] {-1, -2, World.ARRAY, World.FUNCTION, World.PROXY, World.REVOKED, World.THROWING_PROXY, World.LAST}) {
            t.is(v, x.parent(x.make(v)), "make with " + v);
            t.is(0, x.count(1), "no trap is called, " + v);
            int o = x.make(-1);
            t.yes(x.setParent(o, v), "setParent to " + v);
            t.is(0, x.count(1), "nor is one then, " + v);
            t.is(v, x.parent(o), "it is " + v);
        }
    }

    private static void refused(Check t) {
        String before = World.state(World.make());
        for (Place place : Place.PROTOTYPES) {
            for (int v : REFUSED) {
                ObjectRules x = World.make();
                t.illegal(() -> place.call.with(x, v), place.name + " " + v);
                t.same(before, World.state(x), place.name + " " + v + " changes nothing");
            }
        }
        ObjectRules x = new ObjectRules();
        t.illegal(() -> x.make(-2), "the first OBJECT is not above itself");
        t.is(0, x.count(0), "it did not come to be");
    }

    private static void circles(Check t) {
        ObjectRules x = new ObjectRules();
        int a = x.make(-1);
        int b = x.make(a);
        t.no(x.setParent(a, a), "itself");
        t.no(x.setParent(a, b), "the next below");
        t.is(-1, x.parent(a), "null stays");
        int p = x.proxy(a, x.make(-1));
        t.no(x.setParent(p, b), "through a PROXY of it");
        t.no(x.setParent(p, a), "to its own target");
        t.yes(x.setParent(p, p), "to the PROXY, above which nothing is known");
        t.is(p, x.parent(a), "it is");
        t.full(() -> x.get(b, 101, 0, true), "which has no end but the 40");
        t.yes(x.setParent(a, -1), "null again");
    }

    /** 450 OBJECTS above one another are no matter, for none of them is a PROXY. */
    private static void longChain(Check t) {
        ObjectRules x = new ObjectRules();
        int top = x.make(-1);
        int low = top;
        for (int i = 1; i < 450; i++) {
            low = x.make(low);
        }
        int last = low;
        x.set(top, 101, 5, 0, true);
        t.is(5, x.get(last, 101, 0, true), "get from the top");
        t.yes(x.has(last, 101, false), "has");
        t.no(x.has(last, 102, false), "what no one has");
        t.is(-1, x.get(last, 102, 0, true), "is undefined");
        t.yes(x.set(last, 101, 6, 0, true), "set at the bottom");
        t.is(5, x.get(top, 101, 0, true), "the top stays");
        t.no(x.setParent(top, last), "no circle, however long");
        t.yes(x.setParent(last, top), "a short one is no circle");
    }

    private static void givenByTraps(Check t) {
        ObjectRules x = World.make();
        int target = x.make(-1);
        int last = x.make(-1);
        for (int v : new int[] {-1, -2, target, last}) {
            t.is(v, x.parent(Kit.proxyGiving(x, target, Kit.TRAP_GET_PROTOTYPE, v)), "a trap that gives " + v);
        }
        for (int v : new int[] {0, 1, 999, 1000, 1099, 1249}) {
            int p = Kit.proxyGiving(x, target, Kit.TRAP_GET_PROTOTYPE, v);
            t.typeError(() -> x.parent(p), "a trap that gives " + v);
            t.is(1, x.count(1), "it was called, " + v);
        }
    }

    private static void notExtensible(Check t) {
        ObjectRules x = new ObjectRules();
        int top = x.make(-1);
        int o = x.make(top);
        int bare = x.make(-1);
        x.shut(o);
        x.shut(bare);
        t.yes(x.setParent(o, top), "what it is");
        t.no(x.setParent(o, -1), "null");
        t.no(x.setParent(o, bare), "another");
        t.is(top, x.parent(o), "it stays");
        t.yes(x.setParent(bare, -1), "null that it is");
        t.no(x.setParent(bare, top), "an OBJECT in place of null");
        t.is(-1, x.parent(bare), "it stays");
        t.yes(x.setParent(top, bare), "what is above may change");
    }
}
