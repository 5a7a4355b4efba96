/**
 * "IllegalStateException: a TypeError; ArithmeticException: a RangeError; NoSuchElementException: what a FUNCTION
 * throws; UnsupportedOperationException: FULL", also where a FUNCTION is under way.
 */
public final class EdgesOfThrowing {
    public static void main(String[] args) {
        Check t = new Check();
        inFunctions(t);
        throughPlaces(t);
        latest(t);
        firstOfTwo(t);
        t.end();
    }

    /** Only act 3 throws what a FUNCTION throws; what the rules throw while one is under way is theirs. */
    private static void inFunctions(Check t) {
        ObjectRules x = new ObjectRules();
        int fixed = x.make(-1);
        x.define(fixed, 102, Kit.VALUE, 1, 0);
        x.define(fixed, 101, Kit.SET, 0, x.function(2, 102, 77));
        t.typeError(() -> x.set(fixed, 101, 5, 0, true), "a TypeError in act 2");
        t.is(1, x.count(1), "which was called");
        t.is(-1, x.count(3), "but threw nothing itself");
        int a = x.array(0);
        x.define(a, 101, Kit.SET, 0, x.function(2, 100, 77));
        t.rangeError(() -> x.set(a, 101, 1101, 0, true), "a RangeError in act 2");
        t.typeError(() -> x.set(a, 101, 1200, 0, true), "a TypeError of the same length");
        t.is(-1, x.count(3), "which threw nothing itself");
        int loop = x.make(-1);
        x.define(loop, 101, Kit.GET, x.function(1, 101, 77), 0);
        t.full(() -> x.get(loop, 101, 0, true), "FULL in act 1");
        t.is(-1, x.count(3), "which threw nothing itself");
        int thrower = x.make(-1);
        x.define(thrower, 101, Kit.GET, x.function(1, 102, 77), 0);
        x.define(thrower, 102, Kit.GET, x.function(3, 102, 78), 0);
        t.thrown(() -> x.get(thrower, 101, 0, true), "act 3 in act 1");
        t.is(2, x.count(1), "both were called");
        t.is(78, x.count(3), "the VALUE of the one that threw");
    }

    /** A FUNCTION that throws ends each call of the face that calls it. */
    private static void throughPlaces(Check t) {
        int o = World.THROWING_PROXY;
        for (Place place : Place.OBJECTS) {
            ObjectRules x = World.make();
            if (!place.name.startsWith("proxy")) {
                t.thrown(() -> place.call.with(x, o), place.name);
                t.called(x, place.name, World.THROWS);
                t.is(55, x.count(3), place.name + ", the VALUE");
            }
        }
    }

    private static void latest(Check t) {
        ObjectRules x = new ObjectRules();
        int o = x.make(-1);
        int[] values = {-1, 0, 999, 1000, 1249, o};
        t.is(-1, x.count(3), "-1 before");
        for (int i = 0; i < values.length; i++) {
            int key = 101 + i;
            int v = values[i];
            x.define(o, key, Kit.GET, x.function(3, 0, v), 0);
            t.thrown(() -> x.get(o, key, 0, true), "throws " + v);
            t.is(v, x.count(3), "threw " + v);
            t.is(-1, x.get(o, 150, 0, true), "a call that throws nothing");
            t.typeError(() -> x.get(Kit.revoked(x), 101, 0, true), "a TypeError");
            t.illegal(() -> x.get(o, 250, 0, true), "a call that is refused");
            t.is(v, x.count(3), "it is the latest still: " + v);
        }
    }

    /** What comes first by the standard's order is thrown, and nothing behind it happens. */
    private static void firstOfTwo(Check t) {
        ObjectRules x = new ObjectRules();
        int from = x.make(-1);
        x.set(from, 0, 1101, 0, true);
        x.define(from, 1, Kit.GET | Kit.ENUMERABLE_TRUE, x.function(3, 0, 9), 0);
        int to = x.array(0);
        x.shut(to);
        t.typeError(() -> x.assign(to, from), "what can not be set comes before the next is read");
        t.is(0, x.count(1), "so it was not read");
        int other = x.array(0);
        t.thrown(() -> x.assign(other, from), "what is read comes before it is set");
        t.same(" parent -1 open 0=7/1101/-1 100=1/1/-1", State.ofOne(x, other), "the first is set");
    }
}
