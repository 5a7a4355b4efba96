/** "IllegalArgumentException: an OBJECT, VALUE or KEY that is none, or as told, before all else". */
public final class EdgesOfRefusing {
    private static final int NONE = World.FIRST_THAT_IS_NONE;
    private static final int[] ODD = {NONE, NONE - 1, -601, -602, Integer.MIN_VALUE, Integer.MIN_VALUE + 1,
        Integer.MAX_VALUE, Integer.MAX_VALUE - 1};
    private static final int[] NO_OBJECTS = {-1, 0, 1, 999, 1000, 1249, 1250};

    public static void main(String[] args) {
        Check t = new Check();
        objects(t);
        beforeTypeErrors(t, World.REVOKED);
        beforeTypeErrors(t, World.THROWING_PROXY);
        beforeFields(t);
        beforeFullOfObjects(t);
        beforeFullOfProperties(t);
        beforeDepth(t);
        t.end();
    }

    private static void objects(Check t) {
        String before = World.state(World.make());
        for (Place place : Place.OBJECTS) {
            for (int v : new int[] {World.PLAIN, World.EMPTY, World.ARRAY, World.FUNCTION, World.PROXY, World.LAST}) {
                t.taken(() -> place.call.with(World.make(), v), place.name + " " + v);
            }
            for (int v : ODD) {
                refused(t, before, place, v);
            }
            for (int v : NO_OBJECTS) {
                refused(t, before, place, v);
            }
        }
    }

    private static void refused(Check t, String before, Place place, int v) {
        ObjectRules x = World.make();
        t.illegal(() -> place.call.with(x, v), place.name + " " + v);
        t.is(0, x.count(1), place.name + " " + v + " calls nothing");
        t.same(before, World.state(x), place.name + " " + v + " changes nothing");
    }

    /** o itself can be asked for nothing without throwing another thing. */
    private static void beforeTypeErrors(Check t, int o) {
        ObjectRules x = World.make();
        for (int key : new int[] {-1, 250}) {
            t.illegal(() -> x.get(o, key, 0, true), "get, KEY " + key);
            t.illegal(() -> x.set(o, key, 1, 0, true), "set, KEY " + key);
            t.illegal(() -> x.has(o, key, false), "has, KEY " + key);
            t.illegal(() -> x.has(o, key, true), "has own, KEY " + key);
            t.illegal(() -> x.remove(o, key), "remove, KEY " + key);
            t.illegal(() -> x.define(o, key, 0, 0, 0), "define, KEY " + key);
            t.illegal(() -> x.about(o, key, 0), "about, KEY " + key);
        }
        for (int v : new int[] {NONE, 1250}) {
            t.illegal(() -> x.get(o, 101, v, false), "get, receiver " + v);
            t.illegal(() -> x.set(o, 101, v, 0, true), "set, VALUE " + v);
            t.illegal(() -> x.set(o, 101, 1, v, false), "set, receiver " + v);
            t.illegal(() -> x.define(o, 101, Kit.VALUE, v, 0), "define, a " + v);
            t.illegal(() -> x.define(o, 101, Kit.SET, 0, v), "define, b " + v);
            t.illegal(() -> x.setParent(o, v), "setParent, v " + v);
            t.illegal(() -> x.assign(o, v), "assign, from " + v);
            t.illegal(() -> x.assign(v, o), "assign, o " + v);
        }
        for (int what : new int[] {-1, 3}) {
            t.illegal(() -> x.about(o, 101, what), "about, what " + what);
        }
        t.is(0, x.count(1), "nothing was called");
        t.same(World.state(World.make()), World.state(x), "nothing changed");
    }

    /** What is no VALUE or KEY is told before get and set that are no FUNCTION and before fields of both kinds. */
    private static void beforeFields(Check t) {
        ObjectRules x = World.make();
        int both = Kit.VALUE | Kit.GET | Kit.SET;
        t.typeError(() -> x.define(World.PLAIN, 103, both, World.FUNCTION, -1), "both kinds");
        t.illegal(() -> x.define(NONE, 103, both, World.FUNCTION, -1), "both kinds, no OBJECT");
        t.illegal(() -> x.define(World.PLAIN, 250, both, World.FUNCTION, -1), "both kinds, no KEY");
        t.illegal(() -> x.define(World.PLAIN, 103, both, NONE, -1), "both kinds, no VALUE a");
        t.illegal(() -> x.define(World.PLAIN, 103, both, World.FUNCTION, NONE), "both kinds, no VALUE b");
        t.illegal(() -> x.define(World.PLAIN, 103, Kit.GET | Kit.SET, 5, 1250), "get is no FUNCTION, b is no VALUE");
        t.illegal(() -> x.define(World.PLAIN, 103, Kit.GET | Kit.SET, 1250, 5), "set is no FUNCTION, a is no VALUE");
        t.same(World.state(World.make()), World.state(x), "nothing changed");
    }

    private static void beforeFullOfObjects(Check t) {
        ObjectRules x = Fill.objects(600);
        t.full(() -> x.make(-1), "make");
        t.illegal(() -> x.make(-602), "make, no OBJECT");
        t.illegal(() -> x.make(0), "make, neither an OBJECT nor -1");
        t.full(() -> x.array(100), "array");
        t.illegal(() -> x.array(101), "array, too long");
        t.illegal(() -> x.array(-1), "array, too short");
        t.full(() -> x.function(5, 249, 1249), "function");
        t.illegal(() -> x.function(6, 249, 1249), "function, no act");
        t.illegal(() -> x.function(5, 250, 1249), "function, no KEY");
        t.illegal(() -> x.function(5, 249, 1250), "function, no VALUE");
        t.full(() -> x.proxy(-601, -601), "proxy");
        t.illegal(() -> x.proxy(-602, -601), "proxy, no target");
        t.illegal(() -> x.proxy(-601, -602), "proxy, no handler");
        t.is(600, x.count(0), "none came to be");
    }

    private static void beforeFullOfProperties(Check t) {
        ObjectRules x = Fill.properties();
        int last = -25;
        t.full(() -> x.set(last, 249, 1, 0, true), "set");
        t.illegal(() -> x.set(last, 250, 1, 0, true), "set, no KEY");
        t.illegal(() -> x.set(last, 249, 1250, 0, true), "set, no VALUE");
        t.illegal(() -> x.set(last, 249, 1, 1250, false), "set, no receiver");
        t.full(() -> x.define(last, 249, 0, 0, 0), "define");
        t.illegal(() -> x.define(last, 250, 0, 0, 0), "define, no KEY");
        t.illegal(() -> x.define(last, 249, 1, 1250, 0), "define, no VALUE");
        t.typeError(() -> x.define(last, 249, Kit.GET, 0, 0), "a TypeError comes before it too");
        t.full(() -> x.array(100), "array");
        t.illegal(() -> x.array(101), "array, too long");
        t.is(24, x.count(0), "none came to be");
    }

    private static void beforeDepth(Check t) {
        ObjectRules x = new ObjectRules();
        int p = Kit.chain(x, x.make(-1), 41);
        t.full(() -> x.get(p, 249, 0, true), "get");
        t.illegal(() -> x.get(p, 250, 0, true), "get, no KEY");
        t.full(() -> x.about(p, 249, 2), "about");
        t.illegal(() -> x.about(p, 249, 3), "about, another what");
        t.full(() -> x.setParent(p, -1), "setParent");
        t.illegal(() -> x.setParent(p, 0), "setParent, neither an OBJECT nor -1");
        t.full(() -> x.assign(-2, p), "assign");
        t.illegal(() -> x.assign(0, p), "assign, no OBJECT");
    }
}
