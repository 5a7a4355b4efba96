/** Promise 21: "the i-th FUNCTION (from 0) that was called in the latest call of this class (but call, count, key); -1: there is none." */
public final class EdgesOfLatestCall {
    private static final int[] NEVER = {-1, -2, 2000, 2001, Integer.MAX_VALUE, Integer.MIN_VALUE};

    public static void main(String[] args) {
        Check t = new Check();
        noneAtFirst(t);
        numbers(t);
        whatIsNoCall(t);
        whatIsACall(t);
        refusedIsACall(t);
        theSameTwice(t);
        thoseThatThrow(t);
        t.end();
    }

    private static void noneAtFirst(Check t) {
        ObjectRules x = new ObjectRules();
        t.is(-1, x.call(0), "call(0) at first");
        for (int i : NEVER) {
            t.is(-1, x.call(i), "call(" + i + ") at first");
        }
        t.is(0, x.count(1), "none were called");
        x.function(0, 0, 0);
        t.is(-1, x.call(0), "a FUNCTION that comes to be is not called");
    }

    /** With n of them the last is n - 1, and n is none. */
    private static void numbers(Check t) {
        for (int n = 1; n <= 40; n++) {
            ObjectRules x = new ObjectRules();
            int o = x.make(-1);
            for (int i = 0; i < n; i++) {
                x.define(o, 101 + i, Kit.GET, x.function(1, 102 + i, 0), 0);
            }
            t.is(-1, x.get(o, 101, 0, true), n + " in one another");
            t.is(n, x.count(1), n + " were called");
            for (int i = 0; i < n; i++) {
                t.is(-3 - i, x.call(i), "call(" + i + ") of " + n);
            }
            t.is(-1, x.call(n), "call(" + n + ") of " + n);
            for (int i : NEVER) {
                t.is(-1, x.call(i), "call(" + i + ") of " + n);
            }
        }
    }

    /** World's latest call has called one FUNCTION. */
    private static void whatIsNoCall(Check t) {
        ObjectRules x = World.make();
        t.is(World.FUNCTION, x.call(0), "the latest call");
        x.call(5);
        x.count(0);
        x.key(1);
        t.outside(() -> x.key(2), "key that throws");
        t.illegal(() -> x.count(4), "count that is refused");
        t.called(x, "call, count and key are none", World.FUNCTION);
    }

    private static void whatIsACall(Check t) {
        for (Place[] places : new Place[][] {Place.OBJECTS, Place.PROTOTYPES}) {
            for (Place place : places) {
                ObjectRules x = World.make();
                place.call.with(x, World.LAST);
                t.called(x, place.name);
            }
        }
        ObjectRules x = World.make();
        x.array(0);
        t.called(x, "array");
        ObjectRules y = World.make();
        y.revoke(World.REVOKED);
        t.called(y, "revoke");
        ObjectRules z = World.make();
        z.function(0, 0, 0);
        t.called(z, "function");
    }

    /** A call that throws is the latest call as well. */
    private static void refusedIsACall(Check t) {
        ObjectRules x = World.make();
        t.illegal(() -> x.array(101), "refused");
        t.called(x, "refused");
        ObjectRules y = World.make();
        t.typeError(() -> y.open(World.REVOKED), "a TypeError");
        t.called(y, "a TypeError");
        ObjectRules z = Fill.objects(599);
        int f = z.function(0, 0, 5);
        z.define(-2, 150, Kit.GET, f, 0);
        z.get(-2, 150, 0, true);
        t.called(z, "before", f);
        t.full(() -> z.make(-1), "FULL");
        t.called(z, "FULL");
    }

    private static void theSameTwice(Check t) {
        ObjectRules x = new ObjectRules();
        int from = x.make(-1);
        int f = x.function(0, 0, 5);
        for (int key = 0; key < 3; key++) {
            x.define(from, key, Kit.GET | Kit.ENUMERABLE_TRUE, f, 0);
        }
        t.is(3, x.assign(x.make(-1), from), "one FUNCTION for three");
        t.called(x, "is told three times", f, f, f);
        t.is(0, x.assign(x.make(-1), x.make(-1)), "nothing");
        t.called(x, "the next call calls none");
    }

    private static void thoseThatThrow(Check t) {
        ObjectRules x = new ObjectRules();
        int o = x.make(-1);
        int outer = x.function(1, 102, 0);
        int thrower = x.function(3, 0, 9);
        x.define(o, 101, Kit.GET, outer, 0);
        x.define(o, 102, Kit.GET, thrower, 0);
        t.thrown(() -> x.get(o, 101, 0, true), "one throws in another");
        t.called(x, "both were called", outer, thrower);
        int trap = x.function(4, 0, 0);
        int handler = x.make(-1);
        x.set(handler, Kit.TRAP_GET, trap, 0, true);
        t.thrown(() -> x.get(x.proxy(o, handler), 102, 0, true), "in a trap");
        t.called(x, "the trap first", trap, thrower);
    }
}
