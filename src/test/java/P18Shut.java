/** Promise 18: shut. */
public final class P18Shut {
    public static void main(String[] args) {
        Check t = new Check();
        ordinary(t);
        traps(t);
        t.end();
    }

    private static void ordinary(Check t) {
        ObjectRules x = new ObjectRules();
        int o = x.make(-1);
        x.set(o, 101, 5, 0, true);
        t.yes(x.shut(o), "it is shut");
        t.yes(x.shut(o), "and again");
        t.no(x.open(o), "it is not extensible");
        t.no(x.set(o, 102, 5, 0, true), "nothing new comes");
        t.yes(x.set(o, 101, 6, 0, true), "what is there may change");
        t.yes(x.remove(o, 101), "and go");
        t.no(x.set(o, 101, 5, 0, true), "but not come back");
        for (int v : new int[] {x.array(2), x.function(0, 0, 0)}) {
            t.yes(x.shut(v), "another kind " + v);
            t.no(x.open(v), "is not extensible " + v);
        }
        for (int v : new int[] {-1, 0, 1000, -600, Integer.MAX_VALUE, Integer.MIN_VALUE}) {
            t.illegal(() -> x.shut(v), "no OBJECT " + v);
        }
    }

    private static void traps(Check t) {
        ObjectRules x = new ObjectRules();
        int target = x.make(-1);
        int handler = Kit.reflectingHandler(x);
        int p = x.proxy(target, handler);
        for (int v : new int[] {0, -1}) {
            t.no(x.shut(Kit.proxyGiving(x, target, Kit.TRAP_PREVENT_EXTENSIONS, v)), "a trap that gives " + v);
        }
        for (int v : new int[] {1, 7, 1000, 1200, target}) {
            int q = Kit.proxyGiving(x, target, Kit.TRAP_PREVENT_EXTENSIONS, v);
            t.typeError(() -> x.shut(q), "a trap that gives " + v + " though the target is extensible");
        }
        t.thrown(() -> x.shut(Kit.proxyThrowing(x, target, Kit.TRAP_PREVENT_EXTENSIONS, 1)), "a trap that throws");
        t.yes(x.open(target), "it is extensible still");
        t.yes(x.shut(p), "the trap");
        t.called(x, "the trap", handler - 1 - 10);
        t.no(x.open(target), "the target is not extensible");
        t.yes(x.shut(Kit.proxyGiving(x, target, Kit.TRAP_PREVENT_EXTENSIONS, 1)), "a trap that is right");
        t.no(x.shut(Kit.proxyGiving(x, target, Kit.TRAP_PREVENT_EXTENSIONS, 0)), "a trap that refuses is not held to anything");
        int other = x.make(-1);
        t.yes(x.shut(x.proxy(other, x.make(-1))), "no trap");
        t.no(x.open(other), "the target is not extensible");
        int both = x.make(-1);
        x.set(both, Kit.TRAP_PREVENT_EXTENSIONS, x.function(5, 0, 0), 0, true);
        int third = x.make(-1);
        t.no(x.shut(x.proxy(third, both)), "a trap that shuts and refuses");
        t.no(x.open(third), "has shut");
    }
}
