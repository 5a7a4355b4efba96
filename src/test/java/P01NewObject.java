/** Promise 1: a new object has no OBJECTS, and nothing else. */
public final class P01NewObject {
    public static void main(String[] args) {
        Check t = new Check();
        ObjectRules x = new ObjectRules();
        t.is(0, x.count(0), "OBJECTS at first");
        t.is(0, x.count(1), "FUNCTIONS called at first");
        t.is(0, x.count(2), "THE KEYS at first");
        t.is(-1, x.count(3), "thrown at first");
        t.is(-1, x.call(0), "call(0) at first");
        t.fails(IndexOutOfBoundsException.class, () -> x.key(0), "key(0) at first");
        t.illegal(() -> x.parent(-2), "OBJECT 0 at first");
        t.illegal(() -> x.keys(-2, true), "keys of OBJECT 0 at first");
        t.is(0, x.count(0), "OBJECTS after calls that were refused");

        t.is(-2, x.make(-1), "the first OBJECT");
        ObjectRules y = new ObjectRules();
        t.is(0, y.count(0), "another one knows nothing of the first");
        t.illegal(() -> y.open(-2), "another one has no OBJECT 0");
        y.function(0, 0, 1);
        t.is(1, x.count(0), "the first knows nothing of the other");
        t.no(x.about(-2, 101, 0) != -1, "OBJECT 0 of the first has no properties");
        t.end();
    }
}
