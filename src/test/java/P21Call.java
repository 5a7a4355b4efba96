/** Promise 21: call. */
public final class P21Call {
    public static void main(String[] args) {
        Check t = new Check();
        order(t);
        latest(t);
        refused(t);
        t.end();
    }

    private static void order(Check t) {
        ObjectRules x = new ObjectRules();
        t.is(-1, x.call(0), "none at first");
        int o = x.make(-1);
        int inner = x.function(0, 0, 7);
        int outer = x.function(1, 101, 0);
        x.define(o, 101, Kit.GET, inner, 0);
        x.define(o, 102, Kit.GET, outer, 0);
        t.is(7, x.get(o, 102, 0, true), "one calls the other");
        t.is(outer, x.call(0), "as they were called");
        t.is(inner, x.call(1), "the other behind");
        for (int i : new int[] {2, 3, 1999, 2000, -1, Integer.MAX_VALUE, Integer.MIN_VALUE}) {
            t.is(-1, x.call(i), "call(" + i + ")");
        }
        t.is(7, x.get(o, 101, 0, true), "one alone");
        t.called(x, "one alone", inner);
        int thrower = x.function(3, 0, 1);
        x.define(o, 103, Kit.GET, thrower, 0);
        t.thrown(() -> x.get(o, 103, 0, true), "one that throws");
        t.called(x, "one that throws", thrower);
        int none = x.function(4, 0, 1);
        x.define(o, 104, Kit.GET, none, 0);
        x.get(o, 104, 0, true);
        t.called(x, "one that does nothing", none);
    }

    private static void latest(Check t) {
        ObjectRules x = new ObjectRules();
        int o = x.make(-1);
        int f = x.function(0, 0, 7);
        x.define(o, 101, Kit.GET, f, 0);
        x.keys(o, true);
        Runnable[] calls = {
            () -> x.make(-1), () -> x.array(0), () -> x.function(0, 0, 0), () -> x.proxy(o, o),
            () -> x.revoke(-7), () -> x.get(o, 102, 0, true), () -> x.set(o, 102, 1, 0, true),
            () -> x.has(o, 101, false), () -> x.remove(o, 102), () -> x.define(o, 102, 0, 0, 0),
            () -> x.about(o, 101, 0), () -> x.keys(o, false), () -> x.parent(o), () -> x.setParent(o, -1),
            () -> x.open(o), () -> x.shut(o), () -> x.level(o, true, true), () -> x.assign(o, o)
        };
        for (int i = 0; i < calls.length; i++) {
            x.get(o, 101, 0, true);
            x.call(0);
            x.count(0);
            x.key(0);
            t.is(f, x.call(0), "call, count and key leave it, before " + i);
            calls[i].run();
            t.is(-1, x.call(0), "another call does not, " + i);
            t.is(0, x.count(1), "none was called in it, " + i);
        }
        x.get(o, 101, 0, true);
        t.illegal(() -> x.get(o, 250, 0, true), "a call that is refused");
        t.is(-1, x.call(0), "is the latest call too");
        x.get(o, 101, 0, true);
        t.illegal(() -> x.count(9), "but not count");
        t.is(f, x.call(0), "which leaves it");
    }

    private static void refused(Check t) {
        ObjectRules x = new ObjectRules();
        int o = x.make(-1);
        for (int key = 101; key < 141; key++) {
            x.define(o, key, Kit.GET, x.function(1, key + 1, 0), 0);
        }
        x.set(o, 141, 5, 0, true);
        t.is(5, x.get(o, 101, 0, true), "40 in one another");
        t.is(40, x.count(1), "were called");
        x.define(o, 100, Kit.GET, x.function(1, 101, 0), 0);
        t.full(() -> x.get(o, 100, 0, true), "41 in one another");
        t.is(40, x.count(1), "40 of them were called");
    }
}
