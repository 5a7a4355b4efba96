/** Promises 12 and 22: "IllegalArgumentException: another what"; "-1 if there is none"; "-1 of a value"; "-1 before". */
public final class EdgesOfWhat {
    public static void main(String[] args) {
        Check t = new Check();
        about(t);
        aboutNothing(t);
        aboutAll(t);
        count(t);
        counted(t);
        t.end();
    }

    private static void about(Check t) {
        ObjectRules x = World.make();
        t.is(7, x.about(World.PLAIN, 101, 0), "what 0");
        t.is(5, x.about(World.PLAIN, 101, 1), "what 1");
        t.is(-1, x.about(World.PLAIN, 101, 2), "what 2, of a value");
        t.is(8, x.about(World.PLAIN, 102, 0), "what 0, of an accessor");
        t.is(World.FUNCTION, x.about(World.PLAIN, 102, 1), "what 1, its get");
        t.is(World.FUNCTION, x.about(World.PLAIN, 102, 2), "what 2, its set");
        int[] objects = {World.PLAIN, World.EMPTY, World.ARRAY, World.PROXY, World.REVOKED, World.THROWING_PROXY};
        for (int what : new int[] {-1, -2, 3, 4, 8, Integer.MAX_VALUE, Integer.MIN_VALUE}) {
            for (int o : objects) {
                t.illegal(() -> x.about(o, 101, what), "what " + what + " of " + o);
                t.is(0, x.count(1), "calls nothing");
            }
        }
        t.same(World.state(World.make()), World.state(x), "nothing changed");
    }

    private static void aboutNothing(Check t) {
        ObjectRules x = World.make();
        for (int what = 0; what <= 2; what++) {
            t.is(-1, x.about(World.EMPTY, 0, what), "none, what " + what);
            t.is(-1, x.about(World.LAST, 101, what), "what is above is none, what " + what);
            t.is(-1, x.about(World.ARRAY, 1, what), "an element that is not there, what " + what);
            int hides = Kit.proxyGiving(x, World.PLAIN, Kit.TRAP_OWN, -1);
            t.is(-1, x.about(hides, 101, what), "told away, what " + what);
        }
        x.define(World.EMPTY, 103, Kit.GET | Kit.SET, -1, -1);
        t.is(8, x.about(World.EMPTY, 103, 0), "an accessor is there");
        t.is(-1, x.about(World.EMPTY, 103, 1), "though its get is undefined");
        t.is(-1, x.about(World.EMPTY, 103, 2), "and its set");
        x.define(World.EMPTY, 104, 0, 0, 0);
        t.is(0, x.about(World.EMPTY, 104, 0), "a value without flags is there");
        t.is(-1, x.about(World.EMPTY, 104, 1), "though it is undefined");
    }

    private static void aboutAll(Check t) {
        ObjectRules x = new ObjectRules();
        int o = x.make(-1);
        for (int flags = 0; flags < 8; flags++) {
            x.define(o, flags, 51 | flags << 6, 9, 0);
            t.is(flags, x.about(o, flags, 0), "a value with the flags " + flags);
        }
        int f = x.function(0, 0, 0);
        for (int flags = 0; flags < 4; flags++) {
            x.define(o, 101 + flags, 60 | flags << 7, f, -1);
            t.is(8 + 2 * flags, x.about(o, 101 + flags, 0), "an accessor with the flags " + 2 * flags);
        }
    }

    private static void count(Check t) {
        ObjectRules x = World.make();
        t.is(10, x.count(0), "what 0");
        t.is(1, x.count(1), "what 1");
        t.is(2, x.count(2), "what 2");
        t.is(55, x.count(3), "what 3");
        for (int what : new int[] {-1, -2, 4, 5, 10, Integer.MAX_VALUE, Integer.MIN_VALUE}) {
            t.illegal(() -> x.count(what), "what " + what);
        }
        t.is(1, x.count(1), "count is not the latest call");
        t.is(World.FUNCTION, x.call(0), "nor one that is refused");
        ObjectRules y = new ObjectRules();
        t.illegal(() -> y.count(4), "another what of a new object");
        t.is(0, y.count(0), "no OBJECTS");
        t.is(0, y.count(1), "no FUNCTIONS");
        t.is(0, y.count(2), "THE KEYS are none");
        t.is(-1, y.count(3), "-1 before");
    }

    /** From the least to the most that each can be. */
    private static void counted(Check t) {
        t.is(600, Fill.objects(600).count(0), "the most OBJECTS");
        ObjectRules x = new ObjectRules();
        int o = x.make(-1);
        for (int key = 0; key < 250; key++) {
            x.set(o, key, 1, 0, true);
        }
        x.keys(o, true);
        t.is(250, x.count(2), "the most KEYS");
        x.define(o, 0, Kit.GET, x.function(3, 0, -1), 0);
        t.thrown(() -> x.get(o, 0, 0, true), "undefined is thrown");
        t.is(-1, x.count(3), "which is -1 as well");
        t.is(1, x.count(1), "one FUNCTION");
    }
}
