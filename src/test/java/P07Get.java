/** Promise 7: get. */
public final class P07Get {
    public static void main(String[] args) {
        Check t = new Check();
        ordinary(t);
        prototypes(t);
        traps(t);
        invariants(t);
        wrong(t);
        t.end();
    }

    private static void ordinary(Check t) {
        ObjectRules x = new ObjectRules();
        int o = x.make(-1);
        t.is(-1, x.get(o, 101, 0, true), "what is not there");
        for (int key : new int[] {0, 99, 100, 101, 199, 200, 249}) {
            x.set(o, key, 1000 + key, 0, true);
            t.is(1000 + key, x.get(o, key, 0, true), "KEY " + key);
        }
        x.set(o, 102, -1, 0, true);
        t.is(-1, x.get(o, 102, 0, true), "a value that is undefined");
        x.set(o, 103, o, 0, true);
        t.is(o, x.get(o, 103, 0, true), "an OBJECT");
        x.define(o, 104, Kit.GET, -1, 0);
        t.is(-1, x.get(o, 104, 0, true), "an accessor without get");
        x.define(o, 105, Kit.SET, 0, x.function(0, 0, 5));
        t.is(-1, x.get(o, 105, 0, true), "an accessor with set alone");
        int reads = x.function(1, 103, 0);
        x.define(o, 106, Kit.GET, reads, 0);
        t.is(o, x.get(o, 106, 0, true), "a getter");
        t.called(x, "a getter", reads);
        t.is(-1, x.get(o, 106, 7, false), "a getter with a Number for this");
        t.is(1101, x.get(o, 101, 7, false), "a value, with a receiver that is no OBJECT");
        t.is(0, x.count(1), "without a call");
    }

    private static void prototypes(Check t) {
        ObjectRules x = new ObjectRules();
        int top = x.make(-1);
        int middle = x.make(top);
        int low = x.make(middle);
        x.set(top, 101, 1, 0, true);
        t.is(1, x.get(low, 101, 0, true), "from two above");
        x.set(middle, 101, -1, 0, true);
        t.is(-1, x.get(low, 101, 0, true), "the nearest, though it is undefined");
        x.remove(middle, 101);
        t.is(1, x.get(low, 101, 0, true), "from two above again");
        x.set(low, 102, 9, 0, true);
        x.define(top, 103, Kit.GET, x.function(1, 102, 0), 0);
        t.is(9, x.get(low, 103, 0, true), "a getter above is called with the one below");
        t.is(-1, x.get(top, 103, 0, true), "or with itself");

        int handler = Kit.handler(x, Kit.TRAP_GET, 1, 0);
        x.set(handler, 0, 55, 0, true);
        int p = x.proxy(top, handler);
        x.setParent(middle, p);
        t.is(55, x.get(low, 101, 0, true), "a PROXY above is asked");
        t.is(9, x.get(low, 102, 0, true), "but not for what stands below it");
    }

    private static void traps(Check t) {
        ObjectRules x = new ObjectRules();
        int target = x.make(-1);
        x.set(target, 101, 5, 0, true);
        int handler = Kit.handler(x, Kit.TRAP_GET, 0, 8);
        int p = x.proxy(target, handler);
        t.is(8, x.get(p, 101, 0, true), "the trap's answer");
        t.called(x, "the trap", Kit.functionOf(handler));
        t.is(8, x.get(p, 102, 0, true), "also of what is not there");
        t.thrown(() -> x.get(Kit.proxyThrowing(x, target, Kit.TRAP_GET, 4), 101, 0, true), "a trap that throws");
        t.is(4, x.count(3), "its VALUE");

        int reads = x.function(1, 101, 0);
        x.define(target, 103, Kit.GET, reads, 0);
        int other = x.make(-1);
        x.set(other, 101, 6, 0, true);
        int q = Kit.proxyReflecting(x, target, Kit.TRAP_GET);
        t.is(6, x.get(q, 103, other, false), "Reflect.get has the receiver");
        int plain = x.proxy(target, x.make(-1));
        t.is(6, x.get(plain, 103, other, false), "so has a PROXY without the trap");
        t.is(5, x.get(plain, 103, 0, true), "the PROXY itself as receiver");
        t.called(x, "the getter alone", reads);
    }

    private static void invariants(Check t) {
        ObjectRules x = new ObjectRules();
        int target = x.make(-1);
        x.define(target, 101, Kit.VALUE, 5, 0);
        x.define(target, 102, Kit.VALUE | Kit.WRITABLE_TRUE, 5, 0);
        x.define(target, 103, Kit.VALUE | Kit.CONFIGURABLE_TRUE, 5, 0);
        x.define(target, 104, Kit.GET | Kit.SET, -1, x.function(0, 0, 0));
        x.define(target, 105, Kit.GET, x.function(0, 0, 3), 0);
        x.define(target, 106, Kit.GET | Kit.CONFIGURABLE_TRUE, -1, 0);
        int other = Kit.proxyGiving(x, target, Kit.TRAP_GET, 6);
        t.typeError(() -> x.get(other, 101, 0, true), "another value than the fixed one");
        t.is(6, x.get(other, 102, 0, true), "another value than the writable one");
        t.is(6, x.get(other, 103, 0, true), "another value than the configurable one");
        t.typeError(() -> x.get(other, 104, 0, true), "a value of a fixed accessor without get");
        t.is(6, x.get(other, 105, 0, true), "a value of a fixed accessor with get");
        t.is(6, x.get(other, 106, 0, true), "a value of a configurable accessor without get");
        int same = Kit.proxyGiving(x, target, Kit.TRAP_GET, 5);
        t.is(5, x.get(same, 101, 0, true), "the fixed value");
        int none = Kit.proxyGiving(x, target, Kit.TRAP_GET, -1);
        t.is(-1, x.get(none, 104, 0, true), "undefined of a fixed accessor without get");
        t.typeError(() -> x.get(none, 101, 0, true), "undefined is not the fixed value");
        int reflects = Kit.proxyReflecting(x, target, Kit.TRAP_GET);
        t.is(5, x.get(reflects, 101, 0, true), "Reflect's answer fits");

        int inner = x.proxy(target, Kit.handler(x, Kit.TRAP_OWN, 4, 0));
        int outer = Kit.proxyGiving(x, inner, Kit.TRAP_GET, 5);
        t.is(5, x.get(outer, 101, 0, true), "a PROXY as target");
        t.is(2, x.count(1), "is asked for its property");
    }

    private static void wrong(Check t) {
        ObjectRules x = new ObjectRules();
        int o = x.make(-1);
        for (int v : new int[] {-1, 0, 1000, -3, Integer.MAX_VALUE, Integer.MIN_VALUE}) {
            t.illegal(() -> x.get(v, 101, o, true), "no OBJECT " + v);
        }
        for (int key : new int[] {-1, 250, 1000, Integer.MAX_VALUE, Integer.MIN_VALUE}) {
            t.illegal(() -> x.get(o, key, o, true), "no KEY " + key);
        }
        for (int v : new int[] {-3, 1250, Integer.MAX_VALUE, Integer.MIN_VALUE}) {
            t.illegal(() -> x.get(o, 101, v, false), "no receiver " + v);
            t.is(-1, x.get(o, 101, v, true), "which is not looked at if itself: " + v);
        }
        int p = Kit.revoked(x);
        t.illegal(() -> x.get(p, 250, 0, true), "no KEY is told before a TypeError");
    }
}
