/** FULL: an OBJECT more than 600, a property more than 5,999, where the rules themselves make them. */
public final class LimitsOfRoom {
    public static void main(String[] args) {
        Check t = new Check();
        objects(t);
        properties(t);
        lists(t);
        t.end();
    }

    private static void objects(Check t) {
        ObjectRules x = Fill.objects(592);
        int o = x.make(-1);
        x.set(o, 101, 1, 0, true);
        int h = Kit.handler(x, Kit.TRAP_OWN, 4, 0);
        int p = x.proxy(o, h);
        int q = x.proxy(o, Kit.handler(x, Kit.TRAP_DEFINE, 4, 0));
        t.is(599, x.count(0), "599 OBJECTS");
        x.set(h, Kit.TRAP_KEYS, Kit.functionOf(h), 0, true);
        t.is(7, x.about(p, 101, 0), "the last OBJECT is a descriptor");
        t.is(600, x.count(0), "600 OBJECTS");
        t.full(() -> x.about(p, 101, 0), "one descriptor more");
        t.is(1, x.count(1), "the trap was called");
        t.is(-1, x.about(p, 102, 0), "what is not there needs none");
        t.full(() -> x.keys(p, true), "one ARRAY more");
        t.full(() -> x.define(q, 101, 0, 0, 0), "one descriptor for the trap more");
        t.is(0, x.count(1), "the trap was not called");
        t.is(600, x.count(0), "600 OBJECTS still");
        t.is(1, x.get(p, 101, 0, true), "what needs none goes on");
    }

    private static void properties(Check t) {
        ObjectRules x = Fill.properties();
        t.is(249, x.keys(-25, false), "KEYS of the last");
        t.full(() -> x.set(-25, 249, 1, 0, true), "a property more");
        int o = x.make(-1);
        int p = x.proxy(-25, o);
        t.is(-1, x.get(p, 249, 0, true), "what needs no room goes on");
        x.remove(-3, 0);
        x.set(o, Kit.TRAP_OWN, x.function(4, 0, 0), 0, true);
        int before = x.count(0);
        t.full(() -> x.about(p, 101, 0), "no room for a descriptor's fields");
        t.is(before + 1, x.count(0), "it came to be though");
        t.is(0, x.keys(-2 - before, false), "without fields");
        x.remove(-3, 1);
        x.remove(-3, 2);
        x.remove(-3, 3);
        t.full(() -> x.about(p, 101, 0), "room for three of four");
        t.keys(x, -3 - before, "three", 110, 111, 114);
        x.remove(-3, 4);
        x.remove(-3, 5);
        x.remove(-3, 6);
        x.remove(-3, 7);
        t.is(7, x.about(p, 101, 0), "room for four of four");
    }

    private static void lists(Check t) {
        ObjectRules x = Fill.properties();
        int handler = x.make(-1);
        int p = x.proxy(x.make(-1), handler);
        x.remove(-2, 0);
        x.set(handler, Kit.TRAP_KEYS, x.function(4, 0, 0), 0, true);
        int before = x.count(0);
        t.full(() -> x.keys(p, true), "no room for the list's length");
        t.is(before, x.count(0), "it did not come to be");
        x.remove(-2, 1);
        t.is(0, x.keys(p, true), "room for its length");
        x.remove(-2, 2);
        x.remove(-2, 3);
        x.remove(-2, 4);
        x.set(p, 101, 1, 0, true);
        x.set(p, 102, 1, 0, true);
        int made = -2 - x.count(0);
        t.full(() -> x.keys(p, true), "room for its length alone");
        t.keys(x, made, "it came to be though", 100);
        t.is(0, x.get(made, 100, 0, true), "without elements");
    }
}
