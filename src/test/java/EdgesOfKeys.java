/** "KEYS: 0 to 99 the Strings "0" to "99", 100 "length", 101 to 199 Strings that are no numbers, 200 to 249 Symbols." */
public final class EdgesOfKeys {
    private static final int[] TAKEN = {0, 1, 98, 99, 100, 101, 102, 198, 199, 200, 201, 248, 249};
    private static final int[] REFUSED = {-1, -2, 250, 251, 1000, 1100, Integer.MAX_VALUE, Integer.MIN_VALUE};

    public static void main(String[] args) {
        Check t = new Check();
        taken(t);
        refused(t);
        apart(t);
        order(t);
        elements(t);
        asNumbers(t);
        inLists(t);
        t.end();
    }

    private static void taken(Check t) {
        for (Place place : Place.KEYS) {
            for (int key : TAKEN) {
                t.taken(() -> place.call.with(World.make(), key), place.name + " " + key);
            }
        }
    }

    private static void refused(Check t) {
        String before = World.state(World.make());
        for (Place place : Place.KEYS) {
            for (int key : REFUSED) {
                ObjectRules x = World.make();
                t.illegal(() -> place.call.with(x, key), place.name + " " + key);
                t.is(0, x.count(1), place.name + " " + key + " calls nothing");
                t.same(before, World.state(x), place.name + " " + key + " changes nothing");
            }
        }
    }

    /** Each of the 250 is a property of its own. */
    private static void apart(Check t) {
        ObjectRules x = new ObjectRules();
        int o = x.make(-1);
        for (int key = 0; key < 250; key++) {
            t.yes(x.set(o, key, 700 - key, 0, true), "set " + key);
        }
        for (int key = 0; key < 250; key++) {
            t.is(700 - key, x.get(o, key, 0, true), "get " + key);
        }
    }

    private static void order(Check t) {
        ObjectRules x = new ObjectRules();
        int o = x.make(-1);
        for (int i = TAKEN.length - 1; i >= 0; i--) {
            x.set(o, TAKEN[i], 1, 0, true);
        }
        t.keys(x, o, "99 is the last index, 199 the last String", 0, 1, 98, 99, 199, 198, 102, 101, 100, 249, 248, 201, 200);
        int a = x.array(0);
        for (int key : new int[] {249, 199, 101, 0, 99, 200}) {
            x.set(a, key, 1, 0, true);
        }
        t.keys(x, a, "an ARRAY's length is its first String", 0, 99, 100, 199, 101, 249, 200);
    }

    private static void elements(Check t) {
        ObjectRules x = new ObjectRules();
        int a = x.array(0);
        t.yes(x.set(a, 0, 5, 0, true), "the first index");
        t.is(1, x.get(a, 100, 0, true), "an element");
        t.yes(x.set(a, 99, 5, 0, true), "the last index");
        t.is(100, x.get(a, 100, 0, true), "an element");
        int b = x.array(0);
        for (int key : new int[] {101, 199, 200, 249}) {
            t.yes(x.set(b, key, 5, 0, true), "no index: " + key);
            t.is(0, x.get(b, 100, 0, true), "no element: " + key);
        }
        t.yes(x.set(b, 100, 5, 0, true), "\"length\"");
        t.is(5, x.get(b, 100, 0, true), "is the length");
    }

    /** ToNumber of a KEY as a value, where a length is asked for. */
    private static void asNumbers(Check t) {
        ObjectRules x = new ObjectRules();
        int a = x.array(50);
        t.yes(x.set(a, 100, 1000, 0, true), "\"0\"");
        t.is(0, x.get(a, 100, 0, true), "is 0");
        t.yes(x.set(a, 100, 1099, 0, true), "\"99\"");
        t.is(99, x.get(a, 100, 0, true), "is 99");
        String before = State.ofOne(x, a);
        for (int v : new int[] {1100, 1101, 1199}) {
            t.rangeError(() -> x.set(a, 100, v, 0, true), "a String that is no number: " + v);
        }
        for (int v : new int[] {1200, 1249}) {
            t.typeError(() -> x.set(a, 100, v, 0, true), "a Symbol: " + v);
        }
        t.same(before, State.ofOne(x, a), "the length stays");
    }

    /** What a list of KEYS may hold: VALUES from 1000 on. */
    private static void inLists(Check t) {
        ObjectRules x = new ObjectRules();
        int target = x.make(-1);
        for (int v : new int[] {1000, 1099, 1100, 1199, 1200, 1249}) {
            int list = x.array(0);
            x.set(list, 0, v, 0, true);
            t.keys(x, Kit.proxyGiving(x, target, Kit.TRAP_KEYS, list), "a list of " + v, v - 1000);
        }
        for (int v : new int[] {-1, 0, 999, target}) {
            int list = x.array(0);
            x.set(list, 0, v, 0, true);
            int p = Kit.proxyGiving(x, target, Kit.TRAP_KEYS, list);
            t.typeError(() -> x.keys(p, true), "a list of " + v);
            t.is(249, x.key(0), "THE KEYS stay");
        }
    }
}
