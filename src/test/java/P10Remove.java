/** Promise 10: remove. */
public final class P10Remove {
    public static void main(String[] args) {
        Check t = new Check();
        ordinary(t);
        traps(t);
        invariants(t);
        wrong(t);
        t.end();
    }

    private static void ordinary(Check t) {
        ObjectRules x = new ObjectRules();
        int o = x.make(-1);
        t.yes(x.remove(o, 101), "what is not there");
        x.set(o, 101, 1, 0, true);
        x.set(o, 102, 2, 0, true);
        x.set(o, 103, 3, 0, true);
        t.yes(x.remove(o, 102), "what is there");
        t.no(x.has(o, 102, true), "it is gone");
        t.yes(x.remove(o, 102), "and may be removed again");
        x.set(o, 102, 2, 0, true);
        t.keys(x, o, "it comes back behind the others", 101, 103, 102);
        x.define(o, 104, Kit.VALUE | Kit.WRITABLE_TRUE | Kit.ENUMERABLE_TRUE, 1, 0);
        t.no(x.remove(o, 104), "what is not configurable");
        t.yes(x.has(o, 104, true), "it stays");
        x.shut(o);
        t.yes(x.remove(o, 101), "from one that is not extensible");
        int low = x.make(o);
        t.yes(x.remove(low, 102), "what the prototype has");
        t.yes(x.has(low, 102, false), "it stays there");
        x.define(o, 103, Kit.GET | Kit.SET, -1, -1);
        t.yes(x.remove(o, 103), "an accessor");
        t.keys(x, o, "what is left", 102, 104);
        int a = x.array(4);
        x.set(a, 3, 1, 0, true);
        t.yes(x.remove(a, 3), "an element");
        t.no(x.remove(a, 100), "but not the length");
        t.is(4, x.get(a, 100, 0, true), "which stays as it is");
    }

    private static void traps(Check t) {
        ObjectRules x = new ObjectRules();
        int target = x.make(-1);
        x.set(target, 101, 1, 0, true);
        int handler = Kit.reflectingHandler(x);
        int p = x.proxy(target, handler);
        t.yes(x.remove(p, 101), "the trap");
        t.called(x, "the trap", handler - 1 - 3);
        t.no(x.has(target, 101, true), "it is gone");
        x.define(target, 102, Kit.VALUE, 1, 0);
        t.no(x.remove(p, 102), "what Reflect refuses");
        x.set(target, 103, 1, 0, true);
        for (int v : new int[] {0, -1}) {
            t.no(x.remove(Kit.proxyGiving(x, target, Kit.TRAP_DELETE, v), 103), "a trap that gives " + v);
        }
        for (int v : new int[] {1, 5, 1000, 1200, target}) {
            t.yes(x.remove(Kit.proxyGiving(x, target, Kit.TRAP_DELETE, v), 103), "a trap that gives " + v);
        }
        t.yes(x.has(target, 103, true), "none of them removed it");
        t.thrown(() -> x.remove(Kit.proxyThrowing(x, target, Kit.TRAP_DELETE, 1), 103), "a trap that throws");
        t.yes(x.remove(x.proxy(target, x.make(-1)), 103), "no trap");
        t.no(x.has(target, 103, true), "it is gone from the target");
    }

    private static void invariants(Check t) {
        ObjectRules x = new ObjectRules();
        int target = x.make(-1);
        x.define(target, 101, Kit.VALUE, 1, 0);
        x.set(target, 102, 1, 0, true);
        int p = Kit.proxyGiving(x, target, Kit.TRAP_DELETE, 1);
        t.typeError(() -> x.remove(p, 101), "what is not configurable");
        t.yes(x.remove(p, 102), "what is configurable");
        t.yes(x.remove(p, 103), "what is not there");
        x.shut(target);
        t.typeError(() -> x.remove(p, 102), "what is still there, of a target that is not extensible");
        t.yes(x.remove(p, 103), "what is not there");
        int q = Kit.proxyGiving(x, target, Kit.TRAP_DELETE, 0);
        t.no(x.remove(q, 101), "a trap that refuses is not held to anything");
    }

    private static void wrong(Check t) {
        ObjectRules x = new ObjectRules();
        int o = x.make(-1);
        for (int v : new int[] {-1, 0, 1000, -3, Integer.MAX_VALUE, Integer.MIN_VALUE}) {
            t.illegal(() -> x.remove(v, 101), "no OBJECT " + v);
        }
        for (int key : new int[] {-1, 250, 1000, Integer.MAX_VALUE, Integer.MIN_VALUE}) {
            t.illegal(() -> x.remove(o, key), "no KEY " + key);
        }
    }
}
