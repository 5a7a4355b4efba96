/** "FUNCTIONS (alone can be called; no properties at first)"; promise 5: "A new PROXY (it can not be called)." */
public final class EdgesOfCalling {
    public static void main(String[] args) {
        Check t = new Check();
        asGetAndSet(t);
        asTraps(t);
        asFieldsThatAreRead(t);
        noProperties(t);
        t.end();
    }

    /** All but FUNCTIONS and undefined: a PROXY of a FUNCTION is the last of them. */
    private static int[] notCallable(ObjectRules x) {
        int f = x.function(0, 0, 7);
        int empty = x.make(-1);
        return new int[] {0, 1, 999, 1000, 1249, empty, x.array(0), Kit.revoked(x), x.proxy(f, empty)};
    }

    private static void asGetAndSet(Check t) {
        ObjectRules x = new ObjectRules();
        int o = x.make(-1);
        int f = x.function(0, 0, 7);
        for (int v : notCallable(x)) {
            t.typeError(() -> x.define(o, 101, Kit.GET, v, -1), "get " + v);
            t.typeError(() -> x.define(o, 101, Kit.SET, -1, v), "set " + v);
            t.typeError(() -> x.define(o, 101, Kit.GET | Kit.SET, v, f), "get " + v + " beside a set");
            t.typeError(() -> x.define(o, 101, Kit.GET | Kit.SET, f, v), "set " + v + " beside a get");
        }
        t.no(x.has(o, 101, true), "none was defined");
        t.yes(x.define(o, 101, Kit.GET | Kit.SET | Kit.CONFIGURABLE_TRUE, -1, -1), "undefined");
        t.is(-1, x.get(o, 101, 0, true), "is not called by get");
        t.no(x.set(o, 101, 1, 0, true), "nor by set");
        t.is(0, x.count(1), "at all");
        t.yes(x.define(o, 101, Kit.GET | Kit.SET, f, f), "a FUNCTION");
        t.is(7, x.get(o, 101, 0, true), "is called");
        t.yes(x.set(o, 101, 1, 0, true), "also by set");
        t.called(x, "by set", f);
    }

    private static void asTraps(Check t) {
        ObjectRules x = new ObjectRules();
        int target = x.make(-1);
        x.set(target, 101, 5, 0, true);
        for (int v : notCallable(x)) {
            int handler = x.make(-1);
            for (int trap = Kit.TRAP_GET; trap <= Kit.TRAP_PREVENT_EXTENSIONS; trap++) {
                x.set(handler, trap, v, 0, true);
            }
            int p = x.proxy(target, handler);
            t.typeError(() -> x.get(p, 101, 0, true), "get " + v);
            t.typeError(() -> x.set(p, 101, 1, 0, true), "set " + v);
            t.typeError(() -> x.has(p, 101, false), "has " + v);
            t.typeError(() -> x.remove(p, 101), "deleteProperty " + v);
            t.typeError(() -> x.define(p, 101, 0, 0, 0), "defineProperty " + v);
            t.typeError(() -> x.about(p, 101, 0), "getOwnPropertyDescriptor " + v);
            t.typeError(() -> x.keys(p, false), "ownKeys " + v);
            t.typeError(() -> x.parent(p), "getPrototypeOf " + v);
            t.typeError(() -> x.setParent(p, -1), "setPrototypeOf " + v);
            t.typeError(() -> x.open(p), "isExtensible " + v);
            t.typeError(() -> x.shut(p), "preventExtensions " + v);
        }
        t.same(" parent -1 open 101=7/5/-1", State.ofOne(x, target), "the target stays");
    }

    private static void asFieldsThatAreRead(Check t) {
        ObjectRules x = new ObjectRules();
        int target = x.make(-1);
        for (int v : notCallable(x)) {
            for (int name : new int[] {112, 113}) {
                int o = Kit.valueOf(x, new int[] {name, 115}, new int[] {v, 1});
                int p = Kit.proxyGiving(x, target, Kit.TRAP_OWN, o);
                t.typeError(() -> x.about(p, 101, 0), "field " + name + " " + v);
            }
        }
        int o = Kit.valueOf(x, new int[] {112, 113, 115}, new int[] {-1, x.function(0, 0, 0), 1});
        t.is(12, x.about(Kit.proxyGiving(x, target, Kit.TRAP_OWN, o), 101, 0), "undefined and a FUNCTION are taken");
    }

    private static void noProperties(Check t) {
        ObjectRules x = new ObjectRules();
        int f = x.function(0, 101, 5);
        t.is(0, x.keys(f, false), "no properties at first");
        t.no(x.has(f, 100, false), "no length");
        t.yes(x.set(f, 100, 1101, 0, true), "which is like any other then");
        t.is(1101, x.get(f, 100, 0, true), "and no Number");
        t.is(1, x.keys(f, false), "it has one property");
        x.shut(f);
        t.no(x.set(f, 101, 1, 0, true), "not extensible");
        int o = x.make(-1);
        x.define(o, 101, Kit.GET, f, 0);
        t.is(5, x.get(o, 101, 0, true), "but it is called still");
    }
}
