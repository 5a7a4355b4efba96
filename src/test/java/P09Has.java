/** Promise 9: has. */
public final class P09Has {
    public static void main(String[] args) {
        Check t = new Check();
        ordinary(t);
        traps(t);
        invariants(t);
        wrong(t);
        t.end();
    }

    private static void ordinary(Check t) {
        ObjectRules x = new ObjectRules();
        int top = x.make(-1);
        int low = x.make(x.make(top));
        t.no(x.has(low, 101, false), "what is not there");
        t.no(x.has(low, 101, true), "as its own");
        x.set(top, 101, -1, 0, true);
        t.yes(x.has(low, 101, false), "from two above, though it is undefined");
        t.no(x.has(low, 101, true), "not as its own");
        t.yes(x.has(top, 101, true), "as the other's own");
        x.define(low, 200, Kit.GET, x.function(3, 0, 0), 0);
        t.yes(x.has(low, 200, false), "an accessor");
        t.yes(x.has(low, 200, true), "as its own");
        t.is(0, x.count(1), "is not called");
        int a = x.array(3);
        t.yes(x.has(a, 100, true), "an ARRAY's length");
        t.no(x.has(a, 0, false), "but not its elements");
    }

    private static void traps(Check t) {
        ObjectRules x = new ObjectRules();
        int target = x.make(-1);
        x.set(target, 101, 1, 0, true);
        int handler = Kit.reflectingHandler(x);
        int p = x.proxy(target, handler);
        t.yes(x.has(p, 101, false), "the trap");
        t.called(x, "the trap", handler - 1 - 2);
        t.yes(x.has(p, 101, true), "HasOwnProperty asks for the own property");
        t.called(x, "HasOwnProperty", handler - 1 - 5);
        t.no(x.has(p, 102, true), "which is not there");
        t.yes(x.has(x.make(p), 101, false), "a PROXY above");
        t.no(x.has(x.make(p), 101, true), "is not asked for what is own");
        for (int v : new int[] {1, 5, 999, 1000, 1200, target}) {
            t.yes(x.has(Kit.proxyGiving(x, target, Kit.TRAP_HAS, v), 102, false), "a trap that gives " + v);
        }
        for (int v : new int[] {0, -1}) {
            t.no(x.has(Kit.proxyGiving(x, target, Kit.TRAP_HAS, v), 101, false), "a trap that gives " + v);
        }
        t.thrown(() -> x.has(Kit.proxyThrowing(x, target, Kit.TRAP_HAS, 1), 101, false), "a trap that throws");
        t.yes(x.has(x.proxy(x.make(target), x.make(-1)), 101, false), "no trap: the target's prototypes too");
    }

    private static void invariants(Check t) {
        ObjectRules x = new ObjectRules();
        int target = x.make(-1);
        x.define(target, 101, Kit.VALUE | Kit.WRITABLE_TRUE, 1, 0);
        x.set(target, 102, 1, 0, true);
        int p = Kit.proxyGiving(x, target, Kit.TRAP_HAS, 0);
        t.typeError(() -> x.has(p, 101, false), "what is not configurable is told away");
        t.no(x.has(p, 102, false), "what is configurable");
        t.no(x.has(p, 103, false), "what is not there");
        x.shut(target);
        t.typeError(() -> x.has(p, 102, false), "what is configurable, of a target that is not extensible");
        t.no(x.has(p, 103, false), "what is not there may be told away in any case");
        int q = Kit.proxyGiving(x, target, Kit.TRAP_HAS, 1);
        t.yes(x.has(q, 103, false), "and may be told there");

        int inner = x.proxy(x.make(-1), Kit.handler(x, Kit.TRAP_IS_EXTENSIBLE, 4, 0));
        int outer = Kit.proxyGiving(x, inner, Kit.TRAP_HAS, 0);
        x.set(inner, 101, 1, 0, true);
        t.no(x.has(outer, 101, false), "a PROXY as target");
        t.is(2, x.count(1), "is asked whether it is extensible");
        t.no(x.has(outer, 102, false), "but not if it has no such property");
        t.is(1, x.count(1), "so the trap alone is called");
    }

    private static void wrong(Check t) {
        ObjectRules x = new ObjectRules();
        int o = x.make(-1);
        for (int v : new int[] {-1, 0, 1000, -3, Integer.MAX_VALUE, Integer.MIN_VALUE}) {
            t.illegal(() -> x.has(v, 101, true), "no OBJECT " + v);
        }
        for (int key : new int[] {-1, 250, 1000, Integer.MAX_VALUE, Integer.MIN_VALUE}) {
            t.illegal(() -> x.has(o, key, false), "no KEY " + key);
        }
    }
}
