/** Promise 4: function, and what a FUNCTION does by its act. */
public final class P04Function {
    public static void main(String[] args) {
        Check t = new Check();
        ordinary(t);
        first(t);
        asGetters(t);
        asSetters(t);
        asTraps(t);
        receivers(t);
        wrong(t);
        full(t);
        t.end();
    }

    private static void ordinary(Check t) {
        ObjectRules x = new ObjectRules();
        for (int act = 0; act <= 5; act++) {
            int f = x.function(act, 249, 1249);
            t.is(-2 - act, f, "the VALUE of act " + act);
            t.keys(x, f, "act " + act + " has no properties");
            t.is(-1, x.parent(f), "act " + act + " has no prototype");
            t.yes(x.open(f), "act " + act + " is extensible");
        }
        t.is(6, x.count(0), "OBJECTS");
        t.yes(x.set(-2, 100, 3, 0, true), "it may have properties");
        t.is(3, x.get(-2, 100, 0, true), "and it has");
        t.is(0, x.count(1), "none was called");
        t.is(-8, x.function(0, 0, -7), "an OBJECT as VALUE");
    }

    private static void first(Check t) {
        ObjectRules x = new ObjectRules();
        int f = x.function(3, 101, 77);
        int o = x.make(-1);
        x.define(o, 101, Kit.GET, f, 0);
        t.thrown(() -> x.get(o, 101, 0, true), "OBJECT 0 is a FUNCTION");
        t.is(77, x.count(3), "with its VALUE");
    }

    private static void asGetters(Check t) {
        ObjectRules x = new ObjectRules();
        int o = x.make(-1);
        x.set(o, 101, 11, 0, true);
        int[] due = {5, 11, -1, 0, -1, 6};
        for (int act = 0; act <= 5; act++) {
            int f = x.function(act, 101, act == 5 ? 6 : 5);
            x.define(o, 110 + act, Kit.GET | Kit.CONFIGURABLE_TRUE, f, 0);
            int key = 110 + act;
            if (act == 3) {
                t.thrown(() -> x.get(o, key, 0, true), "act 3 as get");
                t.is(5, x.count(3), "the VALUE it threw");
            } else {
                t.is(due[act], x.get(o, key, 0, true), "act " + act + " as get");
            }
            t.called(x, "act " + act + " as get", f);
        }
        t.is(-1, x.get(o, 101, 0, true), "act 2 as get set its KEY to undefined");
    }

    private static void asSetters(Check t) {
        ObjectRules x = new ObjectRules();
        int o = x.make(-1);
        for (int act = 0; act <= 5; act++) {
            int f = x.function(act, 101, 5);
            int key = 110 + act;
            x.define(o, key, Kit.SET, 0, f);
            if (act == 3) {
                t.thrown(() -> x.set(o, key, 8, 0, true), "act 3 as set");
            } else {
                t.yes(x.set(o, key, 8 + act, 0, true), "act " + act + " as set");
            }
            t.called(x, "act " + act + " as set", f);
            t.is(act < 2 ? -1 : 10, x.get(o, 101, 0, true), "only act 2 sets its KEY, after act " + act);
        }
        x.shut(o);
        x.remove(o, 101);
        t.typeError(() -> x.set(o, 112, 8, 0, true), "act 2 that can not set");
    }

    private static void asTraps(Check t) {
        ObjectRules x = new ObjectRules();
        int target = x.make(-1);
        x.set(target, 101, 11, 0, true);
        int giving = Kit.handler(x, Kit.TRAP_GET, 0, 5);
        t.is(5, x.get(x.proxy(target, giving), 101, 0, true), "act 0 as a trap");
        int reading = x.make(-1);
        x.set(reading, Kit.TRAP_GET, x.function(1, 102, 0), 0, true);
        x.set(reading, 102, 12, 0, true);
        t.is(12, x.get(x.proxy(target, reading), 101, 0, true), "act 1 as a trap reads from the handler");
        int writing = x.make(-1);
        x.set(writing, Kit.TRAP_GET, x.function(2, 102, 0), 0, true);
        t.is(-1, x.get(x.proxy(target, writing), 101, 0, true), "act 2 as a trap gives undefined");
        t.is(target, x.get(writing, 102, 0, true), "and sets the target on the handler");
        int throwing = Kit.handler(x, Kit.TRAP_GET, 3, 1200);
        t.thrown(() -> x.get(x.proxy(target, throwing), 101, 0, true), "act 3 as a trap");
        t.is(1200, x.count(3), "the VALUE it threw");
        int reflecting = Kit.handler(x, Kit.TRAP_GET, 4, 5);
        t.is(11, x.get(x.proxy(target, reflecting), 101, 0, true), "act 4 as a trap");
        int both = x.make(-1);
        x.set(both, Kit.TRAP_SET, x.function(5, 0, 0), 0, true);
        t.no(x.set(x.proxy(target, both), 103, 9, target, false), "act 5 as a trap gives its VALUE");
        t.is(9, x.get(target, 103, 0, true), "and does what Reflect does");
    }

    private static void receivers(Check t) {
        ObjectRules x = new ObjectRules();
        int o = x.make(-1);
        int other = x.make(-1);
        int reads = x.function(1, 101, 0);
        int writes = x.function(2, 101, 0);
        x.define(o, 102, Kit.GET | Kit.SET, reads, writes);
        x.set(other, 101, 7, 0, true);
        t.is(7, x.get(o, 102, other, false), "this is the receiver");
        t.yes(x.set(o, 102, 9, other, false), "set calls with the receiver");
        t.is(9, x.get(other, 101, 0, true), "which was set");
        t.no(x.has(o, 101, true), "and not the holder");
        for (int v : new int[] {-1, 0, 5, 1000, 1249}) {
            t.is(-1, x.get(o, 102, v, false), "act 1 with this " + v);
            t.called(x, "act 1 with this " + v, reads);
            t.yes(x.set(o, 102, 9, v, false), "act 2 with this " + v);
            t.called(x, "act 2 with this " + v, writes);
        }
    }

    private static void wrong(Check t) {
        ObjectRules x = new ObjectRules();
        for (int act : new int[] {-1, 6, 7, Integer.MAX_VALUE, Integer.MIN_VALUE}) {
            t.illegal(() -> x.function(act, 0, 0), "act " + act);
        }
        for (int key : new int[] {-1, 250, 1000, Integer.MAX_VALUE, Integer.MIN_VALUE}) {
            t.illegal(() -> x.function(0, key, 0), "KEY " + key);
        }
        for (int v : new int[] {-2, -3, 1250, Integer.MAX_VALUE, Integer.MIN_VALUE}) {
            t.illegal(() -> x.function(4, 0, v), "VALUE " + v);
        }
        t.is(0, x.count(0), "none came to be");
    }

    private static void full(Check t) {
        ObjectRules x = Fill.objects(599);
        t.is(-601, x.function(0, 0, 0), "OBJECT 599, the last");
        t.full(() -> x.function(0, 0, 0), "one more");
        t.illegal(() -> x.function(6, 0, 0), "a wrong act is told before FULL");
    }
}
