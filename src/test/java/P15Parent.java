/** Promise 15: parent. */
public final class P15Parent {
    public static void main(String[] args) {
        Check t = new Check();
        ordinary(t);
        traps(t);
        invariants(t);
        wrong(t);
        t.end();
    }

    private static void ordinary(Check t) {
        ObjectRules x = new ObjectRules();
        int o = x.make(-1);
        t.is(-1, x.parent(o), "null");
        t.is(o, x.parent(x.make(o)), "given");
        t.is(-1, x.parent(x.array(1)), "an ARRAY's");
        t.is(-1, x.parent(x.function(0, 0, 0)), "a FUNCTION's");
        t.is(o, x.parent(x.proxy(-3, o)), "a PROXY's is its target's");
        x.setParent(-4, o);
        t.is(o, x.parent(-4), "changed");
    }

    private static void traps(Check t) {
        ObjectRules x = new ObjectRules();
        int top = x.make(-1);
        int target = x.make(top);
        int handler = Kit.reflectingHandler(x);
        int p = x.proxy(target, handler);
        t.is(top, x.parent(p), "the trap");
        t.called(x, "the trap", handler - 1 - 7);
        t.is(p, x.parent(x.make(p)), "a PROXY above is not asked");
        t.is(0, x.count(1), "at all");
        int other = x.array(0);
        t.is(other, x.parent(Kit.proxyGiving(x, target, Kit.TRAP_GET_PROTOTYPE, other)), "any OBJECT");
        t.is(-1, x.parent(Kit.proxyGiving(x, target, Kit.TRAP_GET_PROTOTYPE, -1)), "null");
        for (int v : new int[] {0, 1, 999, 1000, 1200}) {
            t.typeError(() -> x.parent(Kit.proxyGiving(x, target, Kit.TRAP_GET_PROTOTYPE, v)), "a trap that gives " + v);
        }
        t.thrown(() -> x.parent(Kit.proxyThrowing(x, target, Kit.TRAP_GET_PROTOTYPE, 1)), "a trap that throws");
    }

    private static void invariants(Check t) {
        ObjectRules x = new ObjectRules();
        int top = x.make(-1);
        int target = x.make(top);
        x.shut(target);
        t.is(top, x.parent(Kit.proxyGiving(x, target, Kit.TRAP_GET_PROTOTYPE, top)), "not extensible: the same");
        t.typeError(() -> x.parent(Kit.proxyGiving(x, target, Kit.TRAP_GET_PROTOTYPE, target)), "not extensible: another");
        t.typeError(() -> x.parent(Kit.proxyGiving(x, target, Kit.TRAP_GET_PROTOTYPE, -1)), "not extensible: null");
        int handler = Kit.reflectingHandler(x);
        int inner = x.proxy(target, handler);
        int outer = Kit.proxyGiving(x, inner, Kit.TRAP_GET_PROTOTYPE, top);
        t.is(top, x.parent(outer), "a PROXY as target");
        t.is(3, x.count(1), "is asked twice");
        t.is(handler - 1 - 9, x.call(1), "whether it is extensible");
        t.is(handler - 1 - 7, x.call(2), "and for its prototype");
    }

    private static void wrong(Check t) {
        ObjectRules x = new ObjectRules();
        x.make(-1);
        for (int v : new int[] {-1, 0, 1000, -3, Integer.MAX_VALUE, Integer.MIN_VALUE}) {
            t.illegal(() -> x.parent(v), "no OBJECT " + v);
        }
    }
}
