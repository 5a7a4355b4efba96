/** "VALUES: -1 undefined (as a prototype: null); 0 to 999 Numbers (0 for false, 1 for true); 1000 + k KEY k as a value; -2 - k OBJECT k." */
public final class EdgesOfValues {
    private static final int[] TAKEN = {-1, 0, 1, 998, 999, 1000, 1001, 1248, 1249, World.PLAIN, World.LAST};
    private static final int[] REFUSED = {1250, 1251, World.FIRST_THAT_IS_NONE, World.FIRST_THAT_IS_NONE - 1, -601, -602,
        Integer.MAX_VALUE, Integer.MAX_VALUE - 1, Integer.MIN_VALUE, Integer.MIN_VALUE + 1};

    public static void main(String[] args) {
        Check t = new Check();
        taken(t);
        refused(t);
        kept(t);
        truth(t);
        toldTruth(t);
        comesToBe(t);
        t.end();
    }

    private static void taken(Check t) {
        for (Place place : Place.VALUES) {
            for (int v : TAKEN) {
                t.taken(() -> place.call.with(World.make(), v), place.name + " " + v);
            }
        }
    }

    private static void refused(Check t) {
        String before = World.state(World.make());
        for (Place place : Place.VALUES) {
            for (int v : REFUSED) {
                ObjectRules x = World.make();
                t.illegal(() -> place.call.with(x, v), place.name + " " + v);
                t.is(0, x.count(1), place.name + " " + v + " calls nothing");
                t.same(before, World.state(x), place.name + " " + v + " changes nothing");
            }
        }
    }

    /** Each VALUE is another one than its neighbours, wherever it is kept. */
    private static void kept(Check t) {
        ObjectRules x = World.make();
        for (int v : TAKEN) {
            t.yes(x.set(World.EMPTY, 103, v, 0, true), "set to " + v);
            t.is(v, x.get(World.EMPTY, 103, 0, true), "it is " + v);
            int o = x.make(-1);
            x.define(o, 104, Kit.VALUE, v, 0);
            t.yes(x.define(o, 104, Kit.VALUE, v, 0), "SameValue: " + v);
            for (int other : TAKEN) {
                if (other != v) {
                    t.no(x.define(o, 104, Kit.VALUE, other, 0), v + " is not " + other);
                }
            }
            x.define(o, 105, Kit.GET, x.function(0, 0, v), 0);
            t.is(v, x.get(o, 105, 0, true), "a FUNCTION gives " + v);
            x.define(o, 106, Kit.GET, x.function(3, 0, v), 0);
            t.thrown(() -> x.get(o, 106, 0, true), "a FUNCTION throws " + v);
            t.is(v, x.count(3), "it threw " + v);
        }
    }

    /** ToBoolean: the String "0" and Symbols are true, as are OBJECTS. */
    private static void truth(Check t) {
        ObjectRules x = World.make();
        for (int v : TAKEN) {
            int p = Kit.proxyGiving(x, x.make(-1), Kit.TRAP_HAS, v);
            t.is(v == -1 || v == 0 ? 0 : 1, x.has(p, 101, false) ? 1 : 0, "the truth of " + v);
        }
    }

    private static void toldTruth(Check t) {
        ObjectRules x = new ObjectRules();
        int target = x.make(-1);
        x.define(target, 101, Kit.VALUE | Kit.ENUMERABLE_TRUE | Kit.CONFIGURABLE, 9, 0);
        int p = Kit.proxyReflecting(x, target, Kit.TRAP_OWN);
        int made = -2 - x.count(0);
        x.about(p, 101, 0);
        t.is(0, x.get(made, 111, 0, true), "false is 0");
        t.is(1, x.get(made, 114, 0, true), "true is 1");
        t.is(0, x.get(made, 115, 0, true), "false is 0 again");
    }

    /** An OBJECT is a VALUE from the call on that makes it. */
    private static void comesToBe(Check t) {
        ObjectRules x = new ObjectRules();
        t.illegal(() -> x.function(0, 0, -2), "a FUNCTION is not its own VALUE");
        int o = x.make(-1);
        for (int i = 1; i < 20; i++) {
            int next = -2 - i;
            t.illegal(() -> x.set(o, 101, next, 0, true), "OBJECT " + i + " is not there yet");
            t.is(next, i % 2 == 0 ? x.array(0) : x.make(o), "OBJECT " + i);
            t.yes(x.set(o, 101, next, 0, true), "OBJECT " + i + " is there");
        }
    }
}
