/** Promise 22: count. */
public final class P22Count {
    public static void main(String[] args) {
        Check t = new Check();
        ObjectRules x = new ObjectRules();
        t.is(0, x.count(0), "OBJECTS at first");
        t.is(0, x.count(1), "called at first");
        t.is(0, x.count(2), "THE KEYS at first");
        t.is(-1, x.count(3), "thrown at first");
        int o = x.make(-1);
        x.array(1);
        int f = x.function(3, 0, 55);
        x.proxy(o, o);
        t.is(4, x.count(0), "OBJECTS of all kinds");
        x.define(o, 101, Kit.GET, f, 0);
        t.thrown(() -> x.get(o, 101, 0, true), "a FUNCTION throws");
        t.is(1, x.count(1), "it was called");
        t.is(55, x.count(3), "its VALUE");
        x.keys(o, true);
        t.is(1, x.count(2), "THE KEYS");
        t.is(0, x.count(1), "called in the latest call");
        t.is(55, x.count(3), "thrown latest stays");
        t.typeError(() -> x.get(Kit.revoked(x), 0, 0, true), "a TypeError");
        t.is(55, x.count(3), "is no FUNCTION's");
        x.define(o, 102, Kit.SET, 0, x.function(3, 0, o));
        t.thrown(() -> x.set(o, 102, 1, 0, true), "another throws");
        t.is(o, x.count(3), "its VALUE is an OBJECT");
        x.define(o, 103, Kit.GET, x.function(3, 0, -1), 0);
        t.thrown(() -> x.get(o, 103, 0, true), "another throws undefined");
        t.is(-1, x.count(3), "its VALUE");

        int target = x.make(-1);
        x.set(target, 101, 1, 0, true);
        int before = x.count(0);
        int p = Kit.proxyReflecting(x, target, Kit.TRAP_OWN);
        x.about(p, 101, 0);
        t.is(before + 4, x.count(0), "OBJECTS that FromPropertyDescriptor makes are counted");
        int q = Kit.proxyReflecting(x, target, Kit.TRAP_KEYS);
        x.keys(q, false);
        t.is(before + 8, x.count(0), "and those that CreateArrayFromList makes");
        t.is(1, x.count(2), "THE KEYS were not held");
        for (int what : new int[] {-1, 4, 5, Integer.MAX_VALUE, Integer.MIN_VALUE}) {
            t.illegal(() -> x.count(what), "count(" + what + ")");
        }
        t.end();
    }
}
