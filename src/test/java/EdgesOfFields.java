/**
 * Promise 11: the fields by bits, from the lowest one; "IllegalStateException also if get or set are no FUNCTION or
 * undefined, or it has fields of both kinds."
 */
public final class EdgesOfFields {
    private static final int DATA = Kit.VALUE | Kit.WRITABLE;
    private static final int ACCESSOR = Kit.GET | Kit.SET;

    public static void main(String[] args) {
        Check t = new Check();
        allFields(t);
        bitsAbove(t);
        bothKinds(t);
        fixedByAllFields(t);
        fieldsThatAreNot(t);
        beforeTheObject(t);
        t.end();
    }

    /** Each of the 512 on a KEY that is not there: a field that is not held is undefined or false. */
    private static void allFields(Check t) {
        for (int fields = 0; fields < 512; fields++) {
            ObjectRules x = new ObjectRules();
            int o = x.make(-1);
            int f = x.function(0, 0, 1);
            int g = x.function(0, 0, 2);
            int bits = fields;
            String what = "fields " + fields;
            if ((fields & DATA) != 0 && (fields & ACCESSOR) != 0) {
                t.typeError(() -> x.define(o, 101, bits, f, g), what);
                t.is(0, x.keys(o, false), what + ", nothing came");
            } else {
                t.yes(x.define(o, 101, bits, f, g), what);
                boolean accessor = (fields & ACCESSOR) != 0;
                t.is(flags(fields) + (accessor ? 8 : 0), x.about(o, 101, 0), what + ", flags");
                t.is((fields & (Kit.VALUE | Kit.GET)) != 0 ? f : -1, x.about(o, 101, 1), what + ", value or get");
                t.is((fields & Kit.SET) != 0 ? g : -1, x.about(o, 101, 2), what + ", set");
            }
        }
    }

    private static int flags(int fields) {
        int writable = (fields & Kit.WRITABLE_TRUE) == Kit.WRITABLE_TRUE ? 1 : 0;
        int enumerable = (fields & Kit.ENUMERABLE_TRUE) == Kit.ENUMERABLE_TRUE ? 2 : 0;
        int configurable = (fields & Kit.CONFIGURABLE_TRUE) == Kit.CONFIGURABLE_TRUE ? 4 : 0;
        return writable + enumerable + configurable;
    }

    /** The document names nine bits: those above them tell nothing. */
    private static void bitsAbove(Check t) {
        ObjectRules x = new ObjectRules();
        int o = x.make(-1);
        int key = 101;
        for (int bit = 9; bit < 32; bit++) {
            t.yes(x.define(o, key, 1 << bit, 5, 6), "bit " + bit + " alone");
            t.data(x, o, key, 0, -1, "bit " + bit + " alone");
            t.yes(x.define(o, key + 1, 499 | 1 << bit, 5, 6), "bit " + bit + " beside the others");
            t.data(x, o, key + 1, 7, 5, "bit " + bit + " beside the others");
            key += 2;
        }
        t.typeError(() -> x.define(o, 150, -1, -1, -1), "all bits are of both kinds");
        t.yes(x.define(o, 150, ~ACCESSOR, 5, 6), "all bits but get and set");
        t.data(x, o, 150, 7, 5, "all bits but get and set");
        t.yes(x.define(o, 151, Integer.MIN_VALUE, 5, 6), "the highest bit");
        t.data(x, o, 151, 0, -1, "the highest bit");
    }

    private static void bothKinds(Check t) {
        ObjectRules x = new ObjectRules();
        int o = x.make(-1);
        int f = x.function(0, 0, 1);
        x.set(o, 101, 5, 0, true);
        x.define(o, 102, ACCESSOR | Kit.CONFIGURABLE_TRUE, f, f);
        String before = State.ofOne(x, o);
        for (int data : new int[] {Kit.VALUE, Kit.WRITABLE, Kit.WRITABLE_TRUE, DATA}) {
            for (int accessor : new int[] {Kit.GET, Kit.SET, ACCESSOR}) {
                for (int key : new int[] {101, 102, 103}) {
                    t.typeError(() -> x.define(o, key, data | accessor, f, f), data + " and " + accessor + " on " + key);
                    t.typeError(() -> x.define(o, key, data | accessor, -1, -1), "undefined, on " + key);
                }
            }
        }
        t.same(before, State.ofOne(x, o), "nothing changed");
        t.yes(x.define(o, 101, ACCESSOR | 64, f, f), "that writable is true is no field");
        t.is(14, x.about(o, 101, 0), "it is an accessor");
    }

    /** A property without any true flag takes those of the 512 that tell what it is. */
    private static void fixedByAllFields(Check t) {
        for (int fields = 0; fields < 512; fields++) {
            ObjectRules x = new ObjectRules();
            int o = x.make(-1);
            x.define(o, 101, Kit.VALUE, -1, 0);
            x.define(o, 102, ACCESSOR, -1, -1);
            String before = State.ofOne(x, o);
            int bits = fields;
            boolean data = (fields & DATA) != 0;
            boolean accessor = (fields & ACCESSOR) != 0;
            boolean loose = flags(fields) != 0;
            if (data && accessor) {
                t.typeError(() -> x.define(o, 101, bits, -1, -1), "a value by " + fields);
                t.typeError(() -> x.define(o, 102, bits, -1, -1), "an accessor by " + fields);
            } else {
                t.is(accessor || loose ? 0 : 1, x.define(o, 101, bits, -1, -1) ? 1 : 0, "a value by " + fields);
                t.is(data || loose ? 0 : 1, x.define(o, 102, bits, -1, -1) ? 1 : 0, "an accessor by " + fields);
            }
            t.same(before, State.ofOne(x, o), "it stays, by " + fields);
        }
    }

    private static void fieldsThatAreNot(Check t) {
        ObjectRules x = new ObjectRules();
        int o = x.make(-1);
        int f = x.function(0, 0, 1);
        for (int v : new int[] {0, 1, 999, 1000, 1249, o, x.array(0), x.proxy(f, o)}) {
            t.typeError(() -> x.define(o, 101, Kit.GET, v, f), "get " + v);
            t.typeError(() -> x.define(o, 101, Kit.SET, f, v), "set " + v);
            t.typeError(() -> x.define(o, 101, ACCESSOR, v, v), "both " + v);
            t.yes(x.define(o, 102, Kit.GET | Kit.CONFIGURABLE_TRUE, f, v), "b is no matter without set, " + v);
            t.yes(x.define(o, 102, Kit.SET, v, f), "a is no matter without get and value, " + v);
            t.yes(x.define(o, 103, Kit.VALUE | Kit.CONFIGURABLE_TRUE, v, v), "a as a value, " + v);
            t.is(v, x.about(o, 103, 1), "it is " + v);
        }
        t.no(x.has(o, 101, true), "none came");
    }

    /** The descriptor is looked at before the OBJECT is asked for anything. */
    private static void beforeTheObject(Check t) {
        ObjectRules x = World.make();
        t.typeError(() -> x.define(World.THROWING_PROXY, 101, Kit.VALUE | Kit.SET, 1, -1), "both kinds, on a PROXY that throws");
        t.typeError(() -> x.define(World.THROWING_PROXY, 101, Kit.GET, 1, -1), "get, on a PROXY that throws");
        t.typeError(() -> x.define(World.THROWING_PROXY, 101, Kit.SET, 1, World.PLAIN), "set, on a PROXY that throws");
        t.is(0, x.count(1), "no trap was called");
        t.typeError(() -> x.define(World.ARRAY, 100, Kit.VALUE | Kit.GET, -1, 0), "both kinds, on a length that is none");
        t.same(World.state(World.make()), World.state(x), "nothing changed");
        t.thrown(() -> x.define(World.THROWING_PROXY, 101, Kit.GET | Kit.SET, -1, World.FUNCTION), "what is right comes to the trap");
    }
}
