/** FULL: "a property more than 5,999 at a time (an ARRAY does not come to be without room for its length)". */
public final class LimitsOfProperties {
    /** OBJECT 23 of Fill.properties, without KEY 249. */
    private static final int LAST = -25;

    private interface Way {
        Object come(ObjectRules x, int fresh);
    }

    public static void main(String[] args) {
        Check t = new Check();
        way(t, "set", (x, o) -> x.set(o, 5, 1, 0, true));
        way(t, "set with a receiver", (x, o) -> x.set(LAST, 249, 1, o, false));
        way(t, "define", (x, o) -> x.define(o, 5, 0, 0, 0));
        way(t, "define an accessor", (x, o) -> x.define(o, 249, Kit.GET | Kit.SET, -1, -1));
        way(t, "assign", (x, o) -> x.assign(o, -26));
        arrays(t);
        elements(t);
        throughProxies(t);
        bySetters(t);
        descriptors(t);
        lists(t);
        roomComesBack(t);
        noneIsNeeded(t);
        t.end();
    }

    /** 5,998 properties, and the OBJECTS -26 (with one of them, at KEY 7) and -27 (without any). */
    private static ObjectRules oneFree() {
        ObjectRules x = Fill.properties();
        x.make(-1);
        x.make(-1);
        x.remove(-2, 0);
        x.set(-26, 7, 1, 0, true);
        x.remove(-2, 1);
        return x;
    }

    private static void way(Check t, String name, Way way) {
        ObjectRules x = oneFree();
        int second = x.make(-1);
        way.come(x, -27);
        t.is(1, x.keys(-27, false), name + ", the last property");
        t.full(() -> way.come(x, second), name + ", one more");
        t.is(0, x.keys(second, false), name + ", it did not come");
        t.full(() -> x.set(-2, 1, 1, 0, true), name + ", nor does any other");
        t.is(1, x.keys(-27, false), name + ", the last is there");
        x.remove(-2, 2);
        t.taken(() -> way.come(x, second), name + ", where one went");
        t.is(1, x.keys(second, false), name + ", one comes");
    }

    private static void arrays(Check t) {
        ObjectRules x = oneFree();
        t.is(-28, x.array(100), "the last property is its length");
        t.full(() -> x.array(100), "no room for its length");
        t.full(() -> x.array(0), "also if it is 0");
        t.is(27, x.count(0), "it did not come to be");
        t.illegal(() -> x.open(-29), "it is no OBJECT");
        t.is(-29, x.make(-1), "an OBJECT without properties comes to be");
        t.is(-30, x.function(0, 0, 0), "a FUNCTION too");
        t.is(-31, x.proxy(-2, -2), "a PROXY too");
    }

    private static void elements(Check t) {
        ObjectRules x = oneFree();
        x.remove(-2, 2);
        int a = x.array(0);
        t.yes(x.set(a, 0, 1, 0, true), "the last property is an element");
        t.is(1, x.get(a, 100, 0, true), "the length is behind it");
        t.full(() -> x.set(a, 1, 1, 0, true), "one more");
        t.full(() -> x.define(a, 99, 0, 0, 0), "one more, far behind");
        t.data(x, a, 100, 1, 1, "the length stays");
        t.yes(x.set(a, 100, 100, 0, true), "a greater length is no property more");
        t.yes(x.set(a, 100, 0, 0, true), "a lower one gives room");
        t.yes(x.set(a, 99, 1, 0, true), "for another element");
    }

    private static void throughProxies(Check t) {
        ObjectRules x = oneFree();
        int p = x.proxy(-27, -27);
        t.yes(x.set(p, 5, 1, 0, true), "the last property, through a PROXY");
        t.full(() -> x.set(p, 6, 1, 0, true), "one more");
        t.full(() -> x.define(p, 6, 0, 0, 0), "by define");
        t.full(() -> x.assign(p, -2), "by assign");
        t.is(1, x.keys(-27, false), "none came");
    }

    private static void bySetters(Check t) {
        ObjectRules x = oneFree();
        int f = x.function(2, 8, 0);
        x.define(-27, 7, Kit.SET, 0, f);
        t.full(() -> x.set(-27, 7, 1, 0, true), "a FUNCTION that sets");
        t.called(x, "it was called", f);
        t.is(1, x.keys(-27, false), "it set nothing");
    }

    /** "What was done till then stays": a descriptor stays with the fields that had room. */
    private static void descriptors(Check t) {
        for (int free = 0; free <= 4; free++) {
            ObjectRules x = Fill.properties();
            x.remove(-3, 249);
            int handler = Kit.handler(x, Kit.TRAP_OWN, 4, 0);
            int p = x.proxy(LAST, handler);
            for (int key = 0; key < free; key++) {
                x.remove(-3, key);
            }
            int made = -2 - x.count(0);
            if (free < 4) {
                t.full(() -> x.about(p, 101, 0), "room for " + free + " of 4 fields");
            } else {
                t.is(7, x.about(p, 101, 0), "room for 4 of 4 fields");
            }
            t.called(x, "room for " + free, Kit.functionOf(handler));
            t.is(-2 - made + 1, x.count(0), "it came to be, with room for " + free);
            int[] names = {110, 111, 114, 115};
            t.keys(x, made, "room for " + free, java.util.Arrays.copyOf(names, free));
        }
    }

    private static void lists(Check t) {
        ObjectRules x = Fill.properties();
        x.remove(-2, 0);
        int handler = Kit.handler(x, Kit.TRAP_KEYS, 4, 0);
        int p = x.proxy(LAST, handler);
        int q = x.proxy(x.make(-1), handler);
        int before = x.count(0);
        t.full(() -> x.keys(q, true), "no room for the length of an empty list");
        t.is(before, x.count(0), "it did not come to be");
        t.called(x, "the trap was called", Kit.functionOf(handler));
        x.remove(-2, 1);
        t.is(0, x.keys(q, true), "room for its length");
        t.is(before + 1, x.count(0), "it came to be");
        t.full(() -> x.keys(p, true), "a list of 249 is too long in any case");
        int three = x.make(-1);
        x.remove(-2, 2);
        x.remove(-2, 3);
        x.remove(-2, 4);
        x.set(three, 101, 1, 0, true);
        x.set(three, 102, 1, 0, true);
        x.remove(-2, 5);
        int r = x.proxy(three, handler);
        int made = -2 - x.count(0);
        t.full(() -> x.keys(r, true), "room for its length and the first of two elements");
        t.same(" parent -1 open 0=7/1101/-1 100=1/1/-1", State.ofOne(x, made), "it stays with the first");
    }

    private static void roomComesBack(Check t) {
        ObjectRules x = Fill.properties();
        t.full(() -> x.set(LAST, 249, 1, 0, true), "full");
        t.yes(x.remove(-5, 120), "one goes");
        t.yes(x.set(LAST, 249, 1, 0, true), "one comes");
        t.yes(x.remove(LAST, 249), "it goes");
        int a = x.array(7);
        t.full(() -> x.set(LAST, 249, 1, 0, true), "full by an ARRAY's length");
        for (int key = 0; key < 10; key++) {
            x.remove(-6, key);
        }
        for (int key = 0; key < 10; key++) {
            t.yes(x.set(a, key, key, 0, true), "element " + key);
        }
        t.full(() -> x.set(LAST, 249, 1, 0, true), "full by its elements");
        t.yes(x.set(a, 100, 9, 0, true), "the last element goes");
        t.yes(x.set(LAST, 249, 1, 0, true), "one comes");
        t.full(() -> x.set(-6, 0, 1, 0, true), "full again");
    }

    private static void noneIsNeeded(Check t) {
        ObjectRules x = Fill.properties();
        t.yes(x.set(LAST, 248, 2, 0, true), "another value");
        t.yes(x.define(LAST, 248, Kit.GET, -1, 0), "another kind");
        t.no(x.define(LAST, 248, 0, 0, 0) && x.set(LAST, 248, 1, 0, true), "no setter");
        t.yes(x.level(LAST, false, true), "frozen");
        t.no(x.set(LAST, 249, 1, 0, true), "what is not extensible refuses before it needs room");
        t.is(249, x.keys(LAST, true), "keys");
        t.is(-1, x.get(LAST, 249, 0, true), "get");
        t.no(x.has(LAST, 249, false), "has");
        t.yes(x.remove(LAST, 249), "remove");
    }
}
