/** Promise 5: proxy, which can not be called, whatever its target is. */
public final class P05Proxy {
    public static void main(String[] args) {
        Check t = new Check();
        ordinary(t);
        notCalled(t);
        wrong(t);
        full(t);
        t.end();
    }

    private static void ordinary(Check t) {
        ObjectRules x = new ObjectRules();
        int target = x.array(2);
        int handler = x.make(-1);
        int p = x.proxy(target, handler);
        t.is(-4, p, "its VALUE");
        t.is(3, x.count(0), "OBJECTS");
        t.yes(x.set(p, 101, 5, 0, true), "without traps it is its target");
        t.is(5, x.get(target, 101, 0, true), "which was set");
        t.is(2, x.get(p, 100, 0, true), "its length");
        t.keys(x, p, "its keys", 100, 101);
        t.yes(x.set(p, 6, 1, 0, true), "an element through the PROXY");
        t.is(7, x.get(p, 100, 0, true), "grows the ARRAY");
        int same = x.proxy(handler, handler);
        t.is(-1, x.get(same, Kit.TRAP_GET, 0, true), "target and handler may be the same");
        t.is(-6, x.proxy(p, p), "a PROXY as both");
        t.is(5, x.get(-6, 101, 0, true), "is asked for its trap, which is none, and then for the property");
        int revoked = Kit.revoked(x);
        int fresh = x.proxy(revoked, revoked);
        t.typeError(() -> x.get(fresh, 101, 0, true), "a revoked one may stand in both places, but not be asked");

        int trapless = x.make(-1);
        x.set(trapless, Kit.TRAP_GET, -1, 0, true);
        t.is(5, x.get(x.proxy(target, trapless), 101, 0, true), "a trap that is undefined is none");
        for (int v : new int[] {0, 1, 5, 1101, 1200, target}) {
            int h = x.make(-1);
            x.set(h, Kit.TRAP_GET, v, 0, true);
            int q = x.proxy(target, h);
            t.typeError(() -> x.get(q, 101, 0, true), "a trap that can not be called: " + v);
            t.yes(x.has(q, 101, false), "which the other traps do not see");
        }
        int inherits = x.make(Kit.handler(x, Kit.TRAP_GET, 0, 77));
        t.is(77, x.get(x.proxy(target, inherits), 101, 0, true), "a trap may stand in the handler's prototype");
        int gets = x.make(-1);
        x.set(gets, 102, x.function(0, 0, 78), 0, true);
        int finds = x.function(1, 102, 0);
        x.define(gets, Kit.TRAP_GET, Kit.GET, finds, 0);
        t.is(78, x.get(x.proxy(target, gets), 101, 0, true), "a trap may come from a getter");
        t.is(finds, x.call(0), "which is called first");
    }

    private static void notCalled(Check t) {
        ObjectRules x = new ObjectRules();
        int f = x.function(0, 0, 5);
        int p = x.proxy(f, x.make(-1));
        int o = x.make(-1);
        t.typeError(() -> x.define(o, 101, Kit.GET, p, 0), "a PROXY of a FUNCTION as get");
        t.typeError(() -> x.define(o, 101, Kit.SET, 0, p), "and as set");
        int handler = x.make(-1);
        x.set(handler, Kit.TRAP_GET, p, 0, true);
        int q = x.proxy(o, handler);
        t.typeError(() -> x.get(q, 101, 0, true), "and as a trap");
        int told = Kit.valueOf(x, new int[] {112, 115}, new int[] {p, 1});
        int r = Kit.proxyGiving(x, o, Kit.TRAP_OWN, told);
        t.typeError(() -> x.about(r, 101, 0), "and as the get of a descriptor");
        t.yes(x.set(p, 101, 3, 0, true), "the FUNCTION behind it has properties");
        t.is(3, x.get(f, 101, 0, true), "like any OBJECT");
    }

    private static void wrong(Check t) {
        ObjectRules x = new ObjectRules();
        int o = x.make(-1);
        for (int v : new int[] {-1, 0, 5, 1000, 1249, 1250, -3, Integer.MAX_VALUE, Integer.MIN_VALUE}) {
            t.illegal(() -> x.proxy(v, o), "target " + v);
            t.illegal(() -> x.proxy(o, v), "handler " + v);
        }
        t.is(1, x.count(0), "none came to be");
    }

    private static void full(Check t) {
        ObjectRules x = Fill.objects(599);
        t.is(-601, x.proxy(-2, -2), "OBJECT 599, the last");
        t.full(() -> x.proxy(-2, -2), "one more");
        t.illegal(() -> x.proxy(-2, 0), "no OBJECT is told before FULL");
    }
}
