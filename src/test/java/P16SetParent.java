/** Promise 16: setParent. */
public final class P16SetParent {
    public static void main(String[] args) {
        Check t = new Check();
        ordinary(t);
        circles(t);
        traps(t);
        invariants(t);
        wrong(t);
        t.end();
    }

    private static void ordinary(Check t) {
        ObjectRules x = new ObjectRules();
        int o = x.make(-1);
        int top = x.make(-1);
        t.yes(x.setParent(o, -1), "null, as it is");
        t.yes(x.setParent(o, top), "an OBJECT");
        t.is(top, x.parent(o), "it is");
        t.yes(x.setParent(o, top), "the same again");
        t.yes(x.setParent(o, -1), "null again");
        t.is(-1, x.parent(o), "it is");
        x.setParent(o, top);
        x.shut(o);
        t.yes(x.setParent(o, top), "not extensible: the same");
        t.no(x.setParent(o, -1), "not extensible: null");
        t.no(x.setParent(o, x.make(-1)), "not extensible: another");
        t.is(top, x.parent(o), "it stays");
        int a = x.array(0);
        int f = x.function(0, 0, 0);
        t.yes(x.setParent(a, f), "an ARRAY's");
        t.yes(x.setParent(f, top), "a FUNCTION's");
        t.is(f, x.parent(a), "an ARRAY's is");
        x.set(top, 101, 5, 0, true);
        t.is(5, x.get(a, 101, 0, true), "what is above is found");
    }

    private static void circles(Check t) {
        ObjectRules x = new ObjectRules();
        int a = x.make(-1);
        int b = x.make(a);
        int c = x.make(b);
        t.no(x.setParent(a, a), "itself");
        t.no(x.setParent(a, b), "one below");
        t.no(x.setParent(a, c), "two below");
        t.is(-1, x.parent(a), "it stays");
        t.yes(x.setParent(c, a), "one above");
        t.yes(x.setParent(b, c), "no circle");
        int p = x.proxy(b, x.make(-1));
        t.yes(x.setParent(a, p), "a circle through a PROXY is not seen");
        t.full(() -> x.get(a, 101, 0, true), "but it has an end");
        t.full(() -> x.has(b, 101, false), "for has");
        t.full(() -> x.set(c, 101, 1, 0, true), "and for set");
        t.is(p, x.parent(a), "it is");
        t.yes(x.setParent(a, -1), "and may be undone");
        t.is(-1, x.get(b, 101, 0, true), "it has no end any more");
    }

    private static void traps(Check t) {
        ObjectRules x = new ObjectRules();
        int target = x.make(-1);
        int handler = Kit.reflectingHandler(x);
        int p = x.proxy(target, handler);
        int top = x.make(-1);
        t.yes(x.setParent(p, top), "the trap");
        t.called(x, "the trap", handler - 1 - 8);
        t.is(top, x.parent(target), "the target's is set");
        t.no(x.setParent(p, target), "what Reflect refuses");
        t.yes(x.setParent(p, -1), "null");
        t.is(-1, x.parent(target), "the target's is null");
        for (int v : new int[] {0, -1}) {
            t.no(x.setParent(Kit.proxyGiving(x, target, Kit.TRAP_SET_PROTOTYPE, v), top), "a trap that gives " + v);
        }
        for (int v : new int[] {1, 9, 1000, 1200, target}) {
            t.yes(x.setParent(Kit.proxyGiving(x, target, Kit.TRAP_SET_PROTOTYPE, v), top), "a trap that gives " + v);
        }
        t.is(-1, x.parent(target), "none of them set it");
        t.thrown(() -> x.setParent(Kit.proxyThrowing(x, target, Kit.TRAP_SET_PROTOTYPE, 1), top), "a trap that throws");
        t.yes(x.setParent(x.proxy(target, x.make(-1)), top), "no trap");
        t.is(top, x.parent(target), "the target's is set");
    }

    private static void invariants(Check t) {
        ObjectRules x = new ObjectRules();
        int top = x.make(-1);
        int target = x.make(top);
        x.shut(target);
        int p = Kit.proxyGiving(x, target, Kit.TRAP_SET_PROTOTYPE, 1);
        t.yes(x.setParent(p, top), "not extensible: the same");
        t.typeError(() -> x.setParent(p, -1), "not extensible: null");
        t.typeError(() -> x.setParent(p, target), "not extensible: another");
        int q = Kit.proxyGiving(x, target, Kit.TRAP_SET_PROTOTYPE, 0);
        t.no(x.setParent(q, -1), "a trap that refuses is not held to anything");
    }

    private static void wrong(Check t) {
        ObjectRules x = new ObjectRules();
        int o = x.make(-1);
        for (int v : new int[] {-1, 0, 1000, -3, Integer.MAX_VALUE, Integer.MIN_VALUE}) {
            t.illegal(() -> x.setParent(v, -1), "no OBJECT " + v);
        }
        for (int v : new int[] {0, 1, 999, 1000, 1249, 1250, -3, Integer.MAX_VALUE, Integer.MIN_VALUE}) {
            t.illegal(() -> x.setParent(o, v), "no prototype " + v);
        }
        int p = Kit.revoked(x);
        t.illegal(() -> x.setParent(p, 5), "no prototype is told before a TypeError");
    }
}
