/** Promise 11: define. */
public final class P11Define {
    private static final int ALL = 0;

    public static void main(String[] args) {
        Check t = new Check();
        fields(t);
        changes(t);
        fixedData(t);
        fixedAccessors(t);
        refused(t);
        traps(t);
        invariants(t);
        wrong(t);
        full(t);
        t.end();
    }

    private static void fields(Check t) {
        ObjectRules x = new ObjectRules();
        int o = x.make(-1);
        int f = x.function(0, 0, 1);
        int g = x.function(0, 0, 2);
        t.yes(x.define(o, 101, ALL, 5, 6), "no fields");
        t.data(x, o, 101, 0, -1, "no fields: undefined and false");
        t.yes(x.define(o, 102, Kit.VALUE, 5, 6), "value");
        t.data(x, o, 102, 0, 5, "value is a");
        t.yes(x.define(o, 103, Kit.WRITABLE_TRUE, 5, 6), "writable");
        t.data(x, o, 103, 1, -1, "writable");
        t.yes(x.define(o, 104, Kit.ENUMERABLE_TRUE, 5, 6), "enumerable");
        t.data(x, o, 104, 2, -1, "enumerable");
        t.yes(x.define(o, 105, Kit.CONFIGURABLE_TRUE, 5, 6), "configurable");
        t.data(x, o, 105, 4, -1, "configurable");
        t.yes(x.define(o, 106, 64 | 128 | 256, 5, 6), "true without the field");
        t.data(x, o, 106, 0, -1, "true without the field is nothing");
        t.yes(x.define(o, 107, Kit.VALUE | Kit.WRITABLE | Kit.ENUMERABLE | Kit.CONFIGURABLE, 5, 6), "all false");
        t.data(x, o, 107, 0, 5, "all false");
        t.yes(x.define(o, 108, 499, 5, 6), "all true");
        t.data(x, o, 108, 7, 5, "all true");
        t.yes(x.define(o, 200, Kit.GET, f, 6), "get");
        t.is(8, x.about(o, 200, 0), "get, flags");
        t.is(f, x.about(o, 200, 1), "get is a");
        t.is(-1, x.about(o, 200, 2), "get alone");
        t.yes(x.define(o, 201, Kit.SET, 5, g), "set");
        t.is(-1, x.about(o, 201, 1), "set alone");
        t.is(g, x.about(o, 201, 2), "set is b");
        t.yes(x.define(o, 202, Kit.GET | Kit.SET | Kit.ENUMERABLE_TRUE | Kit.CONFIGURABLE_TRUE, f, g), "both");
        t.is(14, x.about(o, 202, 0), "both, flags");
        t.is(f, x.about(o, 202, 1), "both, get");
        t.is(g, x.about(o, 202, 2), "both, set");
        t.yes(x.define(o, 203, Kit.GET | Kit.SET, -1, -1), "undefined");
        t.is(8, x.about(o, 203, 0), "undefined, but an accessor");
        t.is(0, x.count(1), "none was called");
        t.yes(x.define(o, 109, 499 | 512 | 1 << 20, 5, 6), "bits above the ninth tell nothing");
        t.data(x, o, 109, 7, 5, "bits above the ninth");
    }

    private static void changes(Check t) {
        ObjectRules x = new ObjectRules();
        int o = x.make(-1);
        int f = x.function(0, 0, 1);
        int g = x.function(0, 0, 2);
        x.set(o, 101, 5, 0, true);
        x.set(o, 102, 5, 0, true);
        t.yes(x.define(o, 101, ALL, 0, 0), "no fields change nothing");
        t.data(x, o, 101, 7, 5, "no fields");
        t.yes(x.define(o, 101, Kit.VALUE, 6, 0), "another value");
        t.data(x, o, 101, 7, 6, "another value, the flags stay");
        t.yes(x.define(o, 101, Kit.ENUMERABLE, 0, 0), "not enumerable");
        t.data(x, o, 101, 5, 6, "not enumerable, the value stays");
        t.yes(x.define(o, 101, Kit.WRITABLE, 0, 0), "not writable");
        t.yes(x.define(o, 101, Kit.VALUE, 7, 0), "a configurable one has another value though");
        t.data(x, o, 101, 4, 7, "another value");
        t.yes(x.define(o, 101, Kit.WRITABLE_TRUE | Kit.ENUMERABLE_TRUE, 0, 0), "writable again");
        t.yes(x.define(o, 101, Kit.GET, f, 0), "becomes an accessor");
        t.is(14, x.about(o, 101, 0), "enumerable and configurable stay");
        t.is(f, x.about(o, 101, 1), "its get");
        t.is(-1, x.about(o, 101, 2), "its set is undefined");
        t.yes(x.define(o, 101, Kit.SET, 0, g), "set is added");
        t.is(f, x.about(o, 101, 1), "get stays");
        t.yes(x.define(o, 101, Kit.GET, -1, 0), "get is undefined");
        t.is(g, x.about(o, 101, 2), "set stays");
        t.yes(x.define(o, 101, Kit.ENUMERABLE, 0, 0), "a descriptor without a kind keeps the kind");
        t.is(12, x.about(o, 101, 0), "it is an accessor still");
        t.yes(x.define(o, 101, Kit.WRITABLE_TRUE, 0, 0), "becomes a value");
        t.data(x, o, 101, 5, -1, "undefined, for get and set are gone");
        t.yes(x.define(o, 101, Kit.SET, 0, g), "becomes an accessor once more");
        t.yes(x.define(o, 101, Kit.VALUE, 9, 0), "becomes a value that is not writable");
        t.data(x, o, 101, 4, 9, "not writable");
        t.yes(x.define(o, 101, Kit.GET, f, 0), "becomes an accessor by get alone");
        t.is(-1, x.about(o, 101, 2), "the set that it once had is gone");
        t.yes(x.define(o, 101, Kit.VALUE, 9, 0), "becomes a value again");
        t.yes(x.define(o, 101, Kit.SET, 0, g), "becomes an accessor by set alone");
        t.is(-1, x.about(o, 101, 1), "the get that it once had is gone");
        t.keys(x, o, "it kept its place", 101, 102);
    }

    private static void fixedData(Check t) {
        ObjectRules x = new ObjectRules();
        int o = x.make(-1);
        int f = x.function(0, 0, 1);
        x.define(o, 101, Kit.VALUE | Kit.ENUMERABLE_TRUE, 5, 0);
        t.yes(x.define(o, 101, ALL, 0, 0), "fixed: no fields");
        t.yes(x.define(o, 101, Kit.VALUE, 5, 0), "fixed: the same value");
        t.yes(x.define(o, 101, Kit.VALUE | Kit.WRITABLE | Kit.ENUMERABLE_TRUE | Kit.CONFIGURABLE, 5, 0), "fixed: all the same");
        t.no(x.define(o, 101, Kit.VALUE, 6, 0), "fixed: another value");
        t.no(x.define(o, 101, Kit.VALUE, -1, 0), "fixed: undefined");
        t.no(x.define(o, 101, Kit.WRITABLE_TRUE, 0, 0), "fixed: writable");
        t.no(x.define(o, 101, Kit.ENUMERABLE, 0, 0), "fixed: not enumerable");
        t.no(x.define(o, 101, Kit.CONFIGURABLE_TRUE, 0, 0), "fixed: configurable");
        t.no(x.define(o, 101, Kit.GET, f, 0), "fixed: get");
        t.no(x.define(o, 101, Kit.SET, 0, -1), "fixed: set");
        t.data(x, o, 101, 2, 5, "fixed: nothing changed");

        x.define(o, 102, Kit.VALUE | Kit.WRITABLE_TRUE, 5, 0);
        t.yes(x.define(o, 102, Kit.VALUE, 6, 0), "writable: another value");
        t.no(x.define(o, 102, Kit.ENUMERABLE_TRUE, 0, 0), "writable: enumerable");
        t.yes(x.define(o, 102, Kit.ENUMERABLE, 0, 0), "writable: not enumerable, as it is");
        t.no(x.define(o, 102, Kit.GET, f, 0), "writable: get");
        t.yes(x.define(o, 102, Kit.WRITABLE_TRUE, 0, 0), "writable: writable");
        t.yes(x.define(o, 102, Kit.VALUE | Kit.WRITABLE, 7, 0), "writable: another value that is fixed then");
        t.no(x.define(o, 102, Kit.VALUE, 6, 0), "it is fixed");
        t.data(x, o, 102, 0, 7, "its value");

        x.shut(o);
        t.no(x.define(o, 103, Kit.VALUE, 5, 0), "not extensible: a new one");
        t.no(x.define(o, 103, ALL, 5, 0), "not extensible: a new one without fields");
        t.no(x.has(o, 103, true), "it did not come");
    }

    private static void fixedAccessors(Check t) {
        ObjectRules x = new ObjectRules();
        int o = x.make(-1);
        int f = x.function(0, 0, 1);
        int g = x.function(0, 0, 1);
        x.define(o, 101, Kit.GET | Kit.SET, f, g);
        t.yes(x.define(o, 101, ALL, 0, 0), "no fields");
        t.yes(x.define(o, 101, Kit.GET | Kit.SET | Kit.ENUMERABLE | Kit.CONFIGURABLE, f, g), "the same");
        t.no(x.define(o, 101, Kit.GET, g, 0), "another get, though it does the same");
        t.no(x.define(o, 101, Kit.GET, -1, 0), "no get");
        t.no(x.define(o, 101, Kit.SET, 0, f), "another set");
        t.no(x.define(o, 101, Kit.SET, 0, -1), "no set");
        t.no(x.define(o, 101, Kit.VALUE, 5, 0), "a value");
        t.no(x.define(o, 101, Kit.WRITABLE, 5, 0), "not writable");
        t.no(x.define(o, 101, Kit.ENUMERABLE_TRUE, 0, 0), "enumerable");
        t.no(x.define(o, 101, Kit.CONFIGURABLE_TRUE, 0, 0), "configurable");
        t.is(f, x.about(o, 101, 1), "get stays");
        t.is(g, x.about(o, 101, 2), "set stays");
        t.is(8, x.about(o, 101, 0), "the flags stay");
    }

    private static void refused(Check t) {
        ObjectRules x = new ObjectRules();
        int o = x.make(-1);
        int f = x.function(0, 0, 1);
        int proxy = x.proxy(f, o);
        for (int v : new int[] {0, 5, 1000, 1200, o, x.array(0), proxy}) {
            t.typeError(() -> x.define(o, 101, Kit.GET, v, 0), "get that can not be called: " + v);
            t.typeError(() -> x.define(o, 101, Kit.SET, 0, v), "set that can not be called: " + v);
            t.typeError(() -> x.define(o, 101, Kit.GET | Kit.SET, f, v), "get can, set can not: " + v);
            t.yes(x.define(o, 102, Kit.ENUMERABLE, v, v), "not looked at without the field: " + v);
        }
        t.typeError(() -> x.define(o, 101, Kit.VALUE | Kit.GET, f, 0), "value and get");
        t.typeError(() -> x.define(o, 101, Kit.VALUE | Kit.SET, 0, f), "value and set");
        t.typeError(() -> x.define(o, 101, Kit.WRITABLE | Kit.GET, f, 0), "writable and get");
        t.typeError(() -> x.define(o, 101, Kit.WRITABLE_TRUE | Kit.SET, 0, -1), "writable and set");
        t.typeError(() -> x.define(o, 101, -1, f, f), "all bits");
        t.no(x.has(o, 101, true), "nothing came");
        int thrower = Kit.proxyThrowing(x, o, Kit.TRAP_DEFINE, 3);
        t.typeError(() -> x.define(thrower, 101, Kit.VALUE | Kit.GET, f, 0), "it is told before the OBJECT is asked");
        t.is(0, x.count(1), "so no trap was called");
    }

    private static void traps(Check t) {
        ObjectRules x = new ObjectRules();
        int target = x.make(-1);
        int handler = Kit.reflectingHandler(x);
        int p = x.proxy(target, handler);
        int before = x.count(0);
        t.yes(x.define(p, 101, 499, 5, 0), "the trap");
        t.called(x, "the trap", handler - 1 - 4);
        t.data(x, target, 101, 7, 5, "the target's");
        t.is(before + 1, x.count(0), "FromPropertyDescriptor made one");
        int made = -2 - before;
        t.keys(x, made, "its fields", 110, 111, 114, 115);
        t.data(x, made, 110, 7, 5, "its value");
        t.data(x, made, 111, 7, 1, "its writable");
        t.is(-1, x.parent(made), "it has no prototype");
        int f = x.function(0, 0, 1);
        int next = -2 - x.count(0);
        t.yes(x.define(p, 102, Kit.SET | Kit.GET | Kit.ENUMERABLE | Kit.CONFIGURABLE_TRUE, f, -1), "an accessor");
        t.keys(x, next, "its fields", 112, 113, 114, 115);
        t.is(f, x.get(next, 112, 0, true), "its get");
        t.is(-1, x.get(next, 113, 0, true), "its set");
        t.is(0, x.get(next, 114, 0, true), "its enumerable");
        t.is(1, x.get(next, 115, 0, true), "its configurable");
        for (int v : new int[] {0, -1}) {
            t.no(x.define(Kit.proxyGiving(x, target, Kit.TRAP_DEFINE, v), 103, 0, 0, 0), "a trap that gives " + v);
        }
        for (int v : new int[] {1, 7, 1000, 1200, target}) {
            t.yes(x.define(Kit.proxyGiving(x, target, Kit.TRAP_DEFINE, v), 103, 0, 0, 0), "a trap that gives " + v);
        }
        t.no(x.has(target, 103, true), "none of them defined it");
        t.thrown(() -> x.define(Kit.proxyThrowing(x, target, Kit.TRAP_DEFINE, 1), 103, 0, 0, 0), "a trap that throws");
        int count = x.count(0);
        t.yes(x.define(x.proxy(target, x.make(-1)), 103, 0, 0, 0), "no trap");
        t.is(count + 2, x.count(0), "makes no descriptor");
        t.yes(x.has(target, 103, true), "the target has it");
    }

    private static void invariants(Check t) {
        ObjectRules x = new ObjectRules();
        int target = x.make(-1);
        int p = Kit.proxyGiving(x, target, Kit.TRAP_DEFINE, 1);
        t.yes(x.define(p, 101, Kit.VALUE, 5, 0), "what is not there");
        t.typeError(() -> x.define(p, 101, Kit.CONFIGURABLE, 0, 0), "not configurable, of what is not there");
        x.set(target, 102, 5, 0, true);
        t.yes(x.define(p, 102, Kit.VALUE, 9, 0), "another value of a configurable one");
        t.typeError(() -> x.define(p, 102, Kit.CONFIGURABLE, 0, 0), "not configurable, of a configurable one");
        x.define(target, 103, Kit.VALUE, 5, 0);
        t.typeError(() -> x.define(p, 103, Kit.VALUE, 6, 0), "another value of a fixed one");
        t.typeError(() -> x.define(p, 103, Kit.GET, -1, 0), "another kind of a fixed one");
        t.yes(x.define(p, 103, Kit.VALUE | Kit.CONFIGURABLE, 5, 0), "the same of a fixed one");
        x.define(target, 104, Kit.VALUE | Kit.WRITABLE_TRUE, 5, 0);
        t.typeError(() -> x.define(p, 104, Kit.WRITABLE, 0, 0), "not writable, of a fixed one that is");
        t.typeError(() -> x.define(p, 104, Kit.WRITABLE | Kit.CONFIGURABLE, 0, 0), "and not configurable");
        t.yes(x.define(p, 104, Kit.VALUE | Kit.WRITABLE_TRUE, 7, 0), "another value of a writable one");
        t.yes(x.define(p, 102, Kit.WRITABLE, 0, 0), "not writable, of a configurable one");
        x.define(target, 105, Kit.WRITABLE_TRUE | Kit.ENUMERABLE_TRUE, 0, 0);
        t.typeError(() -> x.define(p, 105, Kit.WRITABLE, 0, 0), "not writable, of a fixed one that is, and is enumerable");
        x.define(target, 106, Kit.WRITABLE_TRUE | Kit.CONFIGURABLE_TRUE, 0, 0);
        t.yes(x.define(p, 106, Kit.WRITABLE, 0, 0), "not writable, of one that is not enumerable");
        int hidden = x.proxy(x.make(-1), Kit.handler(x, Kit.TRAP_OWN, 0, -1));
        int outer = Kit.proxyGiving(x, hidden, Kit.TRAP_DEFINE, 1);
        t.yes(x.define(p, 103, Kit.VALUE, 5, 0), "a fixed one is asked for");
        t.yes(x.define(outer, 103, Kit.VALUE, 6, 0), "and nothing of it is left when another is told away");
        x.shut(target);
        t.typeError(() -> x.define(p, 101, Kit.VALUE, 5, 0), "what is not there, of a target that is not extensible");
        t.yes(x.define(p, 102, Kit.VALUE, 5, 0), "what is there, of such a target");
        int q = Kit.proxyGiving(x, target, Kit.TRAP_DEFINE, 0);
        t.no(x.define(q, 103, Kit.VALUE, 6, 0), "a trap that refuses is not held to anything");
    }

    private static void wrong(Check t) {
        ObjectRules x = new ObjectRules();
        int o = x.make(-1);
        for (int v : new int[] {-1, 0, 1000, -3, Integer.MAX_VALUE, Integer.MIN_VALUE}) {
            t.illegal(() -> x.define(v, 101, 0, 0, 0), "no OBJECT " + v);
        }
        for (int key : new int[] {-1, 250, 1000, Integer.MAX_VALUE, Integer.MIN_VALUE}) {
            t.illegal(() -> x.define(o, key, 0, 0, 0), "no KEY " + key);
        }
        for (int v : new int[] {-3, 1250, Integer.MAX_VALUE, Integer.MIN_VALUE}) {
            t.illegal(() -> x.define(o, 101, Kit.VALUE, v, 0), "no VALUE a " + v);
            t.illegal(() -> x.define(o, 101, Kit.SET, 0, v), "no VALUE b " + v);
        }
        t.illegal(() -> x.define(o, 250, Kit.GET, 5, 0), "no KEY is told before a TypeError");
        t.keys(x, o, "nothing came");
    }

    private static void full(Check t) {
        ObjectRules x = Fill.properties();
        t.full(() -> x.define(-25, 249, 0, 0, 0), "a property more than 5,999");
        t.yes(x.define(-25, 248, Kit.GET, -1, 0), "another kind needs no room");
        x.remove(-2, 1);
        x.remove(-2, 2);
        int p = Kit.proxyReflecting(x, -25, Kit.TRAP_DEFINE);
        int before = x.count(0);
        t.full(() -> x.define(p, 249, 499, 1, 0), "no room for all fields of the descriptor");
        t.is(before + 1, x.count(0), "it came to be though");
        t.keys(x, -2 - before, "with those that had room", 110);
        t.is(0, x.count(1), "and the trap was not called");
    }
}
