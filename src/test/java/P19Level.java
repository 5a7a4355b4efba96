/** Promise 19: level. */
public final class P19Level {
    public static void main(String[] args) {
        Check t = new Check();
        sealing(t);
        freezing(t);
        asking(t);
        proxies(t);
        refused(t);
        wrong(t);
        t.end();
    }

    private static int filled(ObjectRules x) {
        int o = x.make(-1);
        x.set(o, 101, 5, 0, true);
        x.define(o, 102, Kit.GET | Kit.CONFIGURABLE_TRUE, -1, 0);
        x.set(o, 200, 6, 0, true);
        x.set(o, 3, 7, 0, true);
        return o;
    }

    private static void sealing(Check t) {
        ObjectRules x = new ObjectRules();
        int o = filled(x);
        t.yes(x.level(o, false, false), "it is sealed");
        t.no(x.open(o), "not extensible");
        t.data(x, o, 101, 3, 5, "a String");
        t.data(x, o, 200, 3, 6, "a Symbol");
        t.data(x, o, 3, 3, 7, "an index");
        t.is(8, x.about(o, 102, 0), "an accessor");
        t.yes(x.level(o, true, false), "asked");
        t.no(x.level(o, true, true), "it is not frozen");
        t.yes(x.level(o, false, false), "sealed again");
        int a = x.array(2);
        x.set(a, 0, 1, 0, true);
        t.yes(x.level(a, false, false), "an ARRAY is sealed");
        t.data(x, a, 100, 1, 2, "its length is writable");
        t.yes(x.level(a, true, false), "asked");
        t.no(x.level(a, true, true), "it is not frozen");
    }

    private static void freezing(Check t) {
        ObjectRules x = new ObjectRules();
        int o = filled(x);
        t.yes(x.level(o, false, true), "it is frozen");
        t.no(x.open(o), "not extensible");
        t.data(x, o, 101, 2, 5, "a String");
        t.data(x, o, 200, 2, 6, "a Symbol");
        t.is(8, x.about(o, 102, 0), "an accessor");
        t.yes(x.level(o, true, true), "asked");
        t.yes(x.level(o, true, false), "it is sealed too");
        t.yes(x.level(o, false, true), "frozen again");
        int a = x.array(2);
        t.yes(x.level(a, false, true), "an ARRAY is frozen");
        t.data(x, a, 100, 0, 2, "its length is not writable");
    }

    private static void asking(Check t) {
        ObjectRules x = new ObjectRules();
        int o = x.make(-1);
        t.no(x.level(o, true, false), "extensible: not sealed");
        t.no(x.level(o, true, true), "extensible: not frozen");
        t.yes(x.open(o), "asking changes nothing");
        x.shut(o);
        t.yes(x.level(o, true, false), "nothing in it: sealed");
        t.yes(x.level(o, true, true), "nothing in it: frozen");
        int p = x.make(-1);
        x.define(p, 101, Kit.VALUE | Kit.CONFIGURABLE_TRUE, 5, 0);
        x.shut(p);
        t.no(x.level(p, true, false), "a configurable one: not sealed");
        t.no(x.level(p, true, true), "a configurable one: not frozen");
        x.define(p, 101, Kit.CONFIGURABLE, 0, 0);
        t.yes(x.level(p, true, true), "not configurable, not writable: frozen");
        int q = x.make(-1);
        x.define(q, 101, Kit.VALUE | Kit.WRITABLE_TRUE, 5, 0);
        x.shut(q);
        t.yes(x.level(q, true, false), "a writable one: sealed");
        t.no(x.level(q, true, true), "a writable one: not frozen");
        int a = x.array(0);
        x.shut(a);
        t.no(x.level(a, true, true), "an ARRAY's length is writable: not frozen");
        t.yes(x.level(a, true, false), "but sealed");
        int g = x.make(-1);
        x.define(g, 101, Kit.GET, x.function(3, 0, 0), 0);
        x.shut(g);
        t.yes(x.level(g, true, true), "a fixed accessor: frozen");
        t.is(0, x.count(1), "it is not called");
    }

    private static void proxies(Check t) {
        ObjectRules x = new ObjectRules();
        int target = x.make(-1);
        x.set(target, 101, 5, 0, true);
        x.set(target, 102, 5, 0, true);
        int handler = Kit.reflectingHandler(x);
        int own = handler - 1 - 5;
        int define = handler - 1 - 4;
        int keys = handler - 1 - 6;
        int open = handler - 1 - 9;
        int shut = handler - 1 - 10;
        int p = x.proxy(target, handler);
        t.no(x.level(p, true, true), "extensible");
        t.called(x, "extensible: nothing else is asked", open);
        t.yes(x.level(p, false, false), "sealed");
        t.called(x, "sealed", shut, keys, define, define);
        t.yes(x.level(p, false, true), "frozen");
        t.called(x, "frozen", shut, keys, own, define, own, define);
        t.yes(x.level(p, true, true), "asked");
        t.called(x, "asked", open, keys, own, own);
        t.data(x, target, 101, 2, 5, "the target is frozen");
        int other = x.make(-1);
        x.set(other, 101, 5, 0, true);
        x.set(other, 102, 5, 0, true);
        x.shut(other);
        t.no(x.level(x.proxy(other, handler), true, false), "a configurable one");
        t.called(x, "the first of them ends it", open, keys, own);
    }

    private static void refused(Check t) {
        ObjectRules x = new ObjectRules();
        int target = x.make(-1);
        x.set(target, 101, 5, 0, true);
        x.set(target, 102, 5, 0, true);
        t.no(x.level(Kit.proxyGiving(x, target, Kit.TRAP_PREVENT_EXTENSIONS, 0), false, true), "shut is refused");
        t.yes(x.open(target), "nothing is done");
        t.data(x, target, 101, 7, 5, "at all");
        t.typeError(() -> x.level(Kit.proxyGiving(x, target, Kit.TRAP_DEFINE, 0), false, false), "define is refused");
        t.no(x.open(target), "what was done stays");
        int thrower = x.make(-1);
        x.set(thrower, Kit.TRAP_OWN, x.function(3, 0, 8), 0, true);
        t.yes(x.level(x.proxy(target, thrower), false, false), "sealing asks for no property");
        t.thrown(() -> x.level(x.proxy(target, thrower), true, true), "but asking does");

        int away = x.make(-1);
        x.set(away, 101, 1, 0, true);
        int hides = x.make(-1);
        x.set(hides, Kit.TRAP_KEYS, x.function(0, 0, Kit.list(x, 101, 102)), 0, true);
        int shutting = x.proxy(away, hides);
        t.typeError(() -> x.level(shutting, false, true), "a list that does not fit");
        x.set(away, 103, 1, 0, true);
        t.no(x.open(away), "it is shut though");
    }

    private static void wrong(Check t) {
        ObjectRules x = new ObjectRules();
        x.make(-1);
        for (int v : new int[] {-1, 0, 1000, -3, Integer.MAX_VALUE, Integer.MIN_VALUE}) {
            t.illegal(() -> x.level(v, true, true), "no OBJECT " + v);
            t.illegal(() -> x.level(v, false, false), "no OBJECT " + v);
        }
    }
}
