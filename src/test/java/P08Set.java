/** Promise 8: set. */
public final class P08Set {
    public static void main(String[] args) {
        Check t = new Check();
        ordinary(t);
        prototypes(t);
        receivers(t);
        traps(t);
        invariants(t);
        wrong(t);
        full(t);
        t.end();
    }

    private static void ordinary(Check t) {
        ObjectRules x = new ObjectRules();
        int o = x.make(-1);
        t.yes(x.set(o, 101, 5, 0, true), "a new property");
        t.data(x, o, 101, 7, 5, "all flags are true");
        t.yes(x.set(o, 101, -1, 0, true), "another value");
        t.data(x, o, 101, 7, -1, "undefined");
        x.define(o, 102, Kit.VALUE | Kit.WRITABLE_TRUE, 5, 0);
        t.yes(x.set(o, 102, 6, 0, true), "a writable one");
        t.data(x, o, 102, 1, 6, "its flags stay");
        x.define(o, 103, Kit.VALUE | Kit.CONFIGURABLE_TRUE | Kit.ENUMERABLE_TRUE, 5, 0);
        t.no(x.set(o, 103, 6, 0, true), "one that is not writable");
        t.no(x.set(o, 103, 5, 0, true), "nor to what it is");
        t.data(x, o, 103, 6, 5, "it stays");
        x.define(o, 104, Kit.GET, x.function(0, 0, 1), 0);
        t.no(x.set(o, 104, 6, 0, true), "an accessor without set");
        t.is(0, x.count(1), "nothing is called");
        int writes = x.function(2, 105, 0);
        x.define(o, 106, Kit.SET, 0, writes);
        t.yes(x.set(o, 106, 6, 0, true), "an accessor with set");
        t.called(x, "an accessor with set", writes);
        t.is(6, x.get(o, 105, 0, true), "which has the value as its argument");
        x.shut(o);
        t.no(x.set(o, 107, 1, 0, true), "a new property if it is not extensible");
        t.yes(x.set(o, 101, 1, 0, true), "but one that is there");
        x.define(o, 108, Kit.SET, 0, writes);
        int thrower = x.make(-1);
        x.define(thrower, 101, Kit.SET, 0, x.function(3, 0, 9));
        t.thrown(() -> x.set(thrower, 101, 1, 0, true), "a setter that throws");
        t.is(9, x.count(3), "its VALUE");
    }

    private static void prototypes(Check t) {
        ObjectRules x = new ObjectRules();
        int top = x.make(-1);
        int low = x.make(x.make(top));
        x.set(top, 101, 5, 0, true);
        t.yes(x.set(low, 101, 6, 0, true), "what the prototype has");
        t.is(6, x.get(low, 101, 0, true), "is new below");
        t.is(5, x.get(top, 101, 0, true), "and stays above");
        x.define(top, 102, Kit.VALUE, 5, 0);
        t.no(x.set(low, 102, 6, 0, true), "what is not writable above");
        x.define(top, 103, Kit.SET, 0, x.function(2, 104, 0));
        t.yes(x.set(low, 103, 7, 0, true), "a setter above");
        t.is(7, x.get(low, 104, 0, true), "is called with the one below");
        t.no(x.has(top, 104, true), "and not with its holder");
        x.define(top, 105, Kit.GET, -1, 0);
        t.no(x.set(low, 105, 7, 0, true), "an accessor above without set");

        int handler = Kit.handler(x, Kit.TRAP_SET, 0, 0);
        x.setParent(top, x.proxy(x.make(-1), handler));
        t.no(x.set(low, 106, 1, 0, true), "a PROXY above is asked");
        t.called(x, "a PROXY above", Kit.functionOf(handler));
        t.yes(x.set(low, 101, 1, 0, true), "but not for what stands below it");
        t.is(0, x.count(1), "at all");
    }

    private static void receivers(Check t) {
        ObjectRules x = new ObjectRules();
        int o = x.make(-1);
        int receiver = x.make(-1);
        x.set(o, 101, 5, 0, true);
        t.yes(x.set(o, 101, 6, receiver, false), "another receiver");
        t.data(x, receiver, 101, 7, 6, "has a new property");
        t.is(5, x.get(o, 101, 0, true), "and the other one stays");
        t.yes(x.set(o, 101, 7, receiver, false), "again");
        t.is(7, x.get(receiver, 101, 0, true), "it has another value");
        t.yes(x.set(o, 102, 7, receiver, false), "what neither has");
        t.is(7, x.get(receiver, 102, 0, true), "is the receiver's then");
        for (int v : new int[] {-1, 0, 5, 1000, 1249}) {
            t.no(x.set(o, 101, 6, v, false), "a receiver that is no OBJECT: " + v);
            t.no(x.set(o, 107, 6, v, false), "also for what is not there: " + v);
        }
        x.define(receiver, 103, Kit.SET, 0, x.function(0, 0, 0));
        t.no(x.set(o, 103, 6, receiver, false), "a receiver with an accessor");
        t.is(0, x.count(1), "which is not called");
        x.define(receiver, 104, Kit.VALUE | Kit.CONFIGURABLE_TRUE, 1, 0);
        t.no(x.set(o, 104, 6, receiver, false), "a receiver whose property is not writable");
        x.define(receiver, 105, Kit.VALUE | Kit.WRITABLE_TRUE, 1, 0);
        t.yes(x.set(o, 105, 6, receiver, false), "a receiver whose property is fixed but writable");
        t.data(x, receiver, 105, 1, 6, "its flags stay");
        x.shut(receiver);
        t.no(x.set(o, 106, 6, receiver, false), "a receiver that is not extensible");
        int array = x.array(0);
        t.yes(x.set(o, 3, 6, array, false), "an ARRAY as receiver");
        t.is(4, x.get(array, 100, 0, true), "grows");
        t.rangeError(() -> x.set(o, 100, 1101, array, false), "its length is held to be a Number");
        t.yes(x.set(array, 100, 1, x.make(-1), false), "an ARRAY's length, set on another OBJECT");
        t.is(4, x.get(array, 100, 0, true), "stays");
    }

    private static void traps(Check t) {
        ObjectRules x = new ObjectRules();
        int target = x.make(-1);
        int handler = Kit.reflectingHandler(x);
        int p = x.proxy(target, handler);
        t.yes(x.set(p, 101, 5, 0, true), "all traps");
        t.called(x, "set, then the receiver's own", handler - 2, handler - 6, handler - 5);
        t.is(5, x.get(target, 101, 0, true), "the target is set");
        t.yes(x.set(p, 101, 6, target, false), "the target as receiver");
        t.is(1, x.count(1), "calls set alone");
        int before = x.count(0);
        t.yes(x.set(p, 101, 7, 0, true), "a property that is there");
        t.is(before + 2, x.count(0), "makes what getOwnPropertyDescriptor gives and what defineProperty is given");
        t.keys(x, -2 - before - 1, "only the value is defined", 110);
        for (int v : new int[] {0, -1}) {
            t.no(x.set(Kit.proxyGiving(x, target, Kit.TRAP_SET, v), 101, 1, 0, true), "a trap that gives " + v);
        }
        for (int v : new int[] {1, 2, 999, 1000, 1200, target}) {
            t.yes(x.set(Kit.proxyGiving(x, target, Kit.TRAP_SET, v), 101, 1, 0, true), "a trap that gives " + v);
        }
        t.is(7, x.get(target, 101, 0, true), "none of them set anything");
        t.thrown(() -> x.set(Kit.proxyThrowing(x, target, Kit.TRAP_SET, 1), 101, 1, 0, true), "a trap that throws");
        int plain = x.proxy(target, x.make(-1));
        t.yes(x.set(plain, 102, 8, 0, true), "no trap: the receiver is the PROXY");
        t.is(8, x.get(target, 102, 0, true), "which defines it on the target");
    }

    private static void invariants(Check t) {
        ObjectRules x = new ObjectRules();
        int target = x.make(-1);
        x.define(target, 101, Kit.VALUE, 5, 0);
        x.define(target, 102, Kit.VALUE | Kit.WRITABLE_TRUE, 5, 0);
        x.define(target, 103, Kit.VALUE | Kit.CONFIGURABLE_TRUE, 5, 0);
        x.define(target, 104, Kit.GET, x.function(0, 0, 0), 0);
        x.define(target, 105, Kit.SET, 0, x.function(0, 0, 0));
        x.define(target, 106, Kit.GET | Kit.CONFIGURABLE_TRUE, -1, 0);
        int p = Kit.proxyGiving(x, target, Kit.TRAP_SET, 1);
        t.typeError(() -> x.set(p, 101, 6, 0, true), "a fixed value that was not set");
        t.yes(x.set(p, 101, 5, 0, true), "a fixed value that it is already");
        t.yes(x.set(p, 102, 6, 0, true), "a writable one");
        t.yes(x.set(p, 103, 6, 0, true), "a configurable one");
        t.typeError(() -> x.set(p, 104, 6, 0, true), "a fixed accessor without set");
        t.yes(x.set(p, 105, 6, 0, true), "a fixed accessor with set");
        t.yes(x.set(p, 106, 6, 0, true), "a configurable accessor without set");
        t.yes(x.set(p, 107, 6, 0, true), "what is not there");
        int q = Kit.proxyGiving(x, target, Kit.TRAP_SET, 0);
        t.no(x.set(q, 101, 6, 0, true), "a trap that refuses is not held to anything");
    }

    private static void wrong(Check t) {
        ObjectRules x = new ObjectRules();
        int o = x.make(-1);
        for (int v : new int[] {-1, 0, 1000, -3, Integer.MAX_VALUE, Integer.MIN_VALUE}) {
            t.illegal(() -> x.set(v, 101, 1, o, true), "no OBJECT " + v);
        }
        for (int key : new int[] {-1, 250, 1000, Integer.MAX_VALUE, Integer.MIN_VALUE}) {
            t.illegal(() -> x.set(o, key, 1, o, true), "no KEY " + key);
        }
        for (int v : new int[] {-3, 1250, Integer.MAX_VALUE, Integer.MIN_VALUE}) {
            t.illegal(() -> x.set(o, 101, v, o, true), "no VALUE " + v);
            t.illegal(() -> x.set(o, 101, 1, v, false), "no receiver " + v);
            t.no(x.has(o, 101, true), "nothing was set");
            t.yes(x.set(o, 102, 1, v, true), "which is not looked at if itself: " + v);
        }
        int p = Kit.revoked(x);
        t.illegal(() -> x.set(p, 101, 1250, 0, true), "no VALUE is told before a TypeError");
    }

    private static void full(Check t) {
        ObjectRules x = Fill.properties();
        int last = -25;
        t.full(() -> x.set(last, 249, 1, 0, true), "a property more than 5,999");
        t.no(x.has(last, 249, true), "did not come");
        t.yes(x.set(last, 248, 2, 0, true), "one that is there");
        x.shut(last);
        t.no(x.set(last, 249, 1, 0, true), "what is not extensible has no need of room");
        t.yes(x.remove(-2, 7), "room");
        t.yes(x.set(x.make(-1), 3, 1, 0, true), "is used");
        t.full(() -> x.set(-2, 7, 1, 0, true), "and full again");
    }
}
