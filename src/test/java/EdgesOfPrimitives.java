/** "No object has a primitive value (TypeError)." */
public final class EdgesOfPrimitives {
    private static final int[] OBJECTS = {World.PLAIN, World.ARRAY, World.FUNCTION, World.PROXY, World.REVOKED,
        World.THROWING_PROXY, World.LAST};

    public static void main(String[] args) {
        Check t = new Check();
        lengthsOfArrays(t);
        lengthsOfLists(t);
        noNeed(t);
        t.end();
    }

    private static void lengthsOfArrays(Check t) {
        String before = World.state(World.make());
        for (int o : OBJECTS) {
            ObjectRules x = World.make();
            t.typeError(() -> x.set(World.ARRAY, 100, o, 0, true), "set to OBJECT " + o);
            t.is(0, x.count(1), "no trap is asked by set, " + o);
            t.typeError(() -> x.define(World.ARRAY, 100, Kit.VALUE, o, 0), "defined as OBJECT " + o);
            t.is(0, x.count(1), "no trap is asked by define, " + o);
            t.typeError(() -> x.define(World.ARRAY, 100, Kit.VALUE | Kit.WRITABLE, o, 0), "and fixed, " + o);
            t.typeError(() -> x.define(World.ARRAY, 100, Kit.VALUE | Kit.CONFIGURABLE_TRUE, o, 0),
                    "told before what does not fit, " + o);
            t.typeError(() -> x.set(World.PLAIN, 100, o, World.ARRAY, false), "through a receiver, " + o);
            t.same(before, World.state(x), "nothing changed, " + o);
        }
        ObjectRules x = World.make();
        int from = x.make(-1);
        x.set(from, 100, World.LAST, 0, true);
        t.typeError(() -> x.assign(World.ARRAY, from), "by assign");
        x.set(from, 100, 2, 0, true);
        t.is(1, x.assign(World.ARRAY, from), "but a Number is taken");
        t.is(2, x.get(World.ARRAY, 100, 0, true), "it is the length");
    }

    private static void lengthsOfLists(Check t) {
        for (int o : OBJECTS) {
            ObjectRules x = World.make();
            int list = x.make(-1);
            x.set(list, 100, o, 0, true);
            int p = Kit.proxyGiving(x, World.EMPTY, Kit.TRAP_KEYS, list);
            t.typeError(() -> x.keys(p, true), "a list whose length is OBJECT " + o);
            t.is(1, x.count(1), "the trap alone is called, " + o);
            t.is(2, x.count(2), "THE KEYS stay, " + o);
        }
    }

    /** Where no primitive value is asked for, an OBJECT is taken. */
    private static void noNeed(Check t) {
        for (int o : OBJECTS) {
            ObjectRules x = World.make();
            t.yes(x.set(World.EMPTY, 100, o, 0, true), "\"length\" of what is no ARRAY, " + o);
            t.yes(x.set(World.ARRAY, 0, o, 0, true), "an element, " + o);
            t.yes(x.has(Kit.proxyGiving(x, World.EMPTY, Kit.TRAP_HAS, o), 103, false), "it is true, " + o);
        }
    }
}
