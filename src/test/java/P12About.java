/** Promise 12: about. */
public final class P12About {
    public static void main(String[] args) {
        Check t = new Check();
        ordinary(t);
        traps(t);
        toldAway(t);
        told(t);
        reading(t);
        completed(t);
        wrong(t);
        t.end();
    }

    private static void ordinary(Check t) {
        ObjectRules x = new ObjectRules();
        int o = x.make(-1);
        for (int what = 0; what <= 2; what++) {
            t.is(-1, x.about(o, 101, what), "what is not there, " + what);
        }
        for (int bits = 0; bits < 8; bits++) {
            x.define(o, bits, 51 | bits << 6, 40 + bits, 0);
            t.data(x, o, bits, bits, 40 + bits, "flags " + bits);
        }
        int f = x.function(0, 0, 1);
        int g = x.function(0, 0, 2);
        for (int bits = 0; bits < 4; bits++) {
            x.define(o, 101 + bits, 60 | bits << 7, f, g);
            t.is(8 + 2 * bits, x.about(o, 101 + bits, 0), "an accessor's flags " + bits);
            t.is(f, x.about(o, 101 + bits, 1), "its get");
            t.is(g, x.about(o, 101 + bits, 2), "its set");
        }
        t.is(0, x.count(1), "none was called");
        t.is(-1, x.about(x.make(o), 0, 0), "what the prototype has is not asked for");
        t.data(x, x.array(7), 100, 1, 7, "an ARRAY's length");
    }

    private static void traps(Check t) {
        ObjectRules x = new ObjectRules();
        int target = x.make(-1);
        x.define(target, 101, Kit.VALUE | Kit.CONFIGURABLE_TRUE, 5, 0);
        int handler = Kit.reflectingHandler(x);
        int p = x.proxy(target, handler);
        int before = x.count(0);
        t.is(4, x.about(p, 101, 0), "the trap");
        t.called(x, "the trap", handler - 1 - 5);
        t.is(before + 1, x.count(0), "FromPropertyDescriptor made one");
        t.keys(x, -2 - before, "its fields", 110, 111, 114, 115);
        t.is(0, x.get(-2 - before, 111, 0, true), "its writable");
        t.is(5, x.about(p, 101, 1), "the value");
        t.is(-1, x.about(p, 102, 0), "what is not there");
        t.is(before + 2, x.count(0), "makes none");
        t.thrown(() -> x.about(Kit.proxyThrowing(x, target, Kit.TRAP_OWN, 1), 101, 0), "a trap that throws");
        for (int v : new int[] {0, 1, 5, 1101, 1200}) {
            t.typeError(() -> x.about(Kit.proxyGiving(x, target, Kit.TRAP_OWN, v), 101, 0), "a trap that gives " + v);
        }
        int plain = x.proxy(target, x.make(-1));
        t.data(x, plain, 101, 4, 5, "no trap");
    }

    private static void toldAway(Check t) {
        ObjectRules x = new ObjectRules();
        int target = x.make(-1);
        x.define(target, 101, Kit.VALUE | Kit.WRITABLE_TRUE, 5, 0);
        x.set(target, 102, 5, 0, true);
        int p = Kit.proxyGiving(x, target, Kit.TRAP_OWN, -1);
        t.typeError(() -> x.about(p, 101, 0), "what is not configurable is told away");
        t.is(-1, x.about(p, 102, 0), "what is configurable");
        t.is(-1, x.about(p, 103, 0), "what is not there");
        x.shut(target);
        t.typeError(() -> x.about(p, 102, 0), "what is configurable, of a target that is not extensible");
        t.is(-1, x.about(p, 103, 0), "what is not there, of such a target");
    }

    private static void told(Check t) {
        ObjectRules x = new ObjectRules();
        int target = x.make(-1);
        x.set(target, 101, 5, 0, true);
        x.define(target, 102, Kit.VALUE, 5, 0);
        x.define(target, 103, Kit.VALUE | Kit.WRITABLE_TRUE, 5, 0);
        int f = x.function(0, 0, 1);
        x.define(target, 104, Kit.GET, f, 0);
        int loose = Kit.proxyGiving(x, target, Kit.TRAP_OWN, Kit.descriptor(x, 9, 1, 1, 1));
        t.data(x, loose, 101, 7, 9, "another value of a configurable one");
        t.data(x, loose, 105, 7, 9, "what is not there");
        t.typeError(() -> x.about(loose, 102, 0), "configurable, of a fixed one");
        int fixed = Kit.proxyGiving(x, target, Kit.TRAP_OWN, Kit.descriptor(x, 5, 0, 0, 0));
        t.data(x, fixed, 102, 0, 5, "the same, of a fixed one");
        t.typeError(() -> x.about(fixed, 101, 0), "fixed, of a configurable one");
        t.typeError(() -> x.about(fixed, 105, 0), "fixed, of what is not there");
        t.typeError(() -> x.about(fixed, 103, 0), "not writable, of a fixed one that is");
        t.typeError(() -> x.about(fixed, 104, 0), "a value, of a fixed accessor");
        int writable = Kit.proxyGiving(x, target, Kit.TRAP_OWN, Kit.descriptor(x, 8, 1, 0, 0));
        t.data(x, writable, 103, 1, 8, "another value of a fixed one that is writable");
        t.typeError(() -> x.about(writable, 102, 0), "another value of a fixed one");
        int accessor = Kit.proxyGiving(x, target, Kit.TRAP_OWN, Kit.valueOf(x, new int[] {112}, new int[] {f}));
        t.is(8, x.about(accessor, 104, 0), "the same accessor");
        t.is(f, x.about(accessor, 104, 1), "its get");
        t.is(-1, x.about(accessor, 104, 2), "its set, which was completed");
        int empty = Kit.proxyGiving(x, target, Kit.TRAP_OWN, x.make(-1));
        t.typeError(() -> x.about(empty, 102, 0), "no fields are completed: another value");
        x.define(target, 106, 0, 0, 0);
        t.data(x, empty, 106, 0, -1, "no fields are completed: the same");
        x.shut(target);
        t.typeError(() -> x.about(loose, 105, 0), "what is not there, of a target that is not extensible");
        t.data(x, loose, 101, 7, 9, "what is there, of such a target");
    }

    private static void reading(Check t) {
        ObjectRules x = new ObjectRules();
        int target = x.make(-1);
        int f = x.function(0, 0, 1);
        int[] names = {110, 111, 112, 113, 114, 115};
        int[] readers = new int[6];
        int told = x.make(-1);
        for (int i = 0; i < 6; i++) {
            readers[i] = x.function(0, 0, i == 2 || i == 3 ? f : 1);
            x.define(told, names[i], Kit.GET, readers[i], 0);
        }
        int handler = Kit.handler(x, Kit.TRAP_OWN, 0, told);
        int trap = Kit.functionOf(handler);
        int p = x.proxy(target, handler);
        t.typeError(() -> x.about(p, 101, 0), "fields of both kinds");
        t.called(x, "all are read first, in their order", trap, readers[4], readers[5], readers[0], readers[1],
                readers[2], readers[3]);

        int bad = x.make(-1);
        x.set(bad, 112, 5, 0, true);
        x.define(bad, 113, Kit.GET, x.function(3, 0, 1), 0);
        int q = Kit.proxyGiving(x, target, Kit.TRAP_OWN, bad);
        t.typeError(() -> x.about(q, 101, 0), "a get that can not be called is told before set is read");
        t.is(1, x.count(1), "so it was not called");

        int badSet = Kit.proxyGiving(x, target, Kit.TRAP_OWN, Kit.valueOf(x, new int[] {113, 115}, new int[] {5, 1}));
        t.typeError(() -> x.about(badSet, 101, 0), "a set that can not be called");

        int above = Kit.descriptor(x, 4, 0, 1, 1);
        int inherits = Kit.proxyGiving(x, target, Kit.TRAP_OWN, x.make(above));
        t.data(x, inherits, 101, 6, 4, "fields may stand in the prototype");
        int strings = Kit.proxyGiving(x, target, Kit.TRAP_OWN, Kit.descriptor(x, 4, 1000, target, 1249));
        t.is(7, x.about(strings, 101, 0), "flags by ToBoolean");
        int nones = Kit.proxyGiving(x, target, Kit.TRAP_OWN, Kit.descriptor(x, 4, 0, -1, 1));
        t.is(4, x.about(nones, 101, 0), "0 and undefined are false");
    }

    /** What a PROXY tells is complete when the next one makes an OBJECT of it. */
    private static void completed(Check t) {
        ObjectRules x = new ObjectRules();
        int target = x.make(-1);
        int f = x.function(0, 0, 1);
        int[][] told = {{110, 5}, {111, 1}, {112, f}, {113, f}, {114, 1}};
        int[][] due = {{110, 111, 114, 115}, {110, 111, 114, 115}, {112, 113, 114, 115}, {112, 113, 114, 115},
            {110, 111, 114, 115}};
        for (int i = 0; i < told.length; i++) {
            int o = Kit.valueOf(x, new int[] {115, told[i][0]}, new int[] {1, told[i][1]});
            int outer = Kit.proxyReflecting(x, Kit.proxyGiving(x, target, Kit.TRAP_OWN, o), Kit.TRAP_OWN);
            int made = -2 - x.count(0);
            t.yes(x.has(outer, 101, true), "told by " + told[i][0]);
            t.keys(x, made, "completed from " + told[i][0], due[i]);
            t.is(told[i][1], x.get(made, told[i][0], 0, true), "with what was told by " + told[i][0]);
            t.is(1, x.get(made, 115, 0, true), "and its configurable");
        }
    }

    private static void wrong(Check t) {
        ObjectRules x = new ObjectRules();
        int o = x.make(-1);
        for (int v : new int[] {-1, 0, 1000, -3, Integer.MAX_VALUE, Integer.MIN_VALUE}) {
            t.illegal(() -> x.about(v, 101, 0), "no OBJECT " + v);
        }
        for (int key : new int[] {-1, 250, 1000, Integer.MAX_VALUE, Integer.MIN_VALUE}) {
            t.illegal(() -> x.about(o, key, 0), "no KEY " + key);
        }
        for (int what : new int[] {-1, 3, 4, Integer.MAX_VALUE, Integer.MIN_VALUE}) {
            t.illegal(() -> x.about(o, 101, what), "what " + what);
        }
        int thrower = Kit.proxyThrowing(x, o, Kit.TRAP_OWN, 3);
        t.illegal(() -> x.about(thrower, 101, 3), "another what is told before the trap");
        t.is(-1, x.count(3), "which was not called");
    }
}
