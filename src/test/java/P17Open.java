/** Promise 17: open. */
public final class P17Open {
    public static void main(String[] args) {
        Check t = new Check();
        ObjectRules x = new ObjectRules();
        int o = x.make(-1);
        t.yes(x.open(o), "an ordinary OBJECT");
        t.yes(x.open(x.array(0)), "an ARRAY");
        t.yes(x.open(x.function(0, 0, 0)), "a FUNCTION");
        t.yes(x.open(x.proxy(o, x.make(-1))), "a PROXY");
        int closed = Kit.shutObject(x);
        t.no(x.open(closed), "one that was shut");
        t.no(x.open(x.proxy(closed, o)), "a PROXY of it");
        t.yes(x.open(x.make(closed)), "one below it");

        int handler = Kit.reflectingHandler(x);
        t.yes(x.open(x.proxy(o, handler)), "the trap");
        t.called(x, "the trap", handler - 1 - 9);
        t.no(x.open(x.proxy(closed, handler)), "the trap, of one that was shut");
        for (int v : new int[] {1, 7, 1000, 1200, o}) {
            t.yes(x.open(Kit.proxyGiving(x, o, Kit.TRAP_IS_EXTENSIBLE, v)), "a trap that gives " + v);
            t.typeError(() -> x.open(Kit.proxyGiving(x, closed, Kit.TRAP_IS_EXTENSIBLE, v)), "and is not so: " + v);
        }
        for (int v : new int[] {0, -1}) {
            t.no(x.open(Kit.proxyGiving(x, closed, Kit.TRAP_IS_EXTENSIBLE, v)), "a trap that gives " + v);
            t.typeError(() -> x.open(Kit.proxyGiving(x, o, Kit.TRAP_IS_EXTENSIBLE, v)), "and is not so: " + v);
        }
        t.thrown(() -> x.open(Kit.proxyThrowing(x, o, Kit.TRAP_IS_EXTENSIBLE, 1)), "a trap that throws");
        for (int v : new int[] {-1, 0, 1000, -600, Integer.MAX_VALUE, Integer.MIN_VALUE}) {
            t.illegal(() -> x.open(v), "no OBJECT " + v);
        }
        t.end();
    }
}
