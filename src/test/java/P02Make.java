/** Promise 2: make. */
public final class P02Make {
    public static void main(String[] args) {
        Check t = new Check();
        ordinary(t);
        wrong(t);
        full(t);
        t.end();
    }

    private static void ordinary(Check t) {
        ObjectRules x = new ObjectRules();
        t.is(-2, x.make(-1), "the first");
        t.is(-3, x.make(-2), "the second");
        t.is(2, x.count(0), "OBJECTS");
        t.is(-1, x.parent(-2), "prototype null");
        t.is(-2, x.parent(-3), "prototype given");
        t.yes(x.open(-3), "it is extensible");
        t.keys(x, -3, "it has no properties");
        int array = x.array(0);
        int function = x.function(0, 0, 0);
        int proxy = x.proxy(-2, -3);
        t.is(array, x.parent(x.make(array)), "an ARRAY as prototype");
        t.is(function, x.parent(x.make(function)), "a FUNCTION as prototype");
        t.is(proxy, x.parent(x.make(proxy)), "a PROXY as prototype");
        t.is(-13, x.make(Kit.revoked(x)), "a revoked PROXY as prototype is not asked");
        x.set(-2, 101, 7, 0, true);
        t.is(7, x.get(-3, 101, 0, true), "what the prototype has is there");
        t.yes(x.set(x.make(-1), 100, 5, 0, true), "\"length\" is like any other KEY of an ordinary OBJECT");
        t.typeError(() -> x.define(-2, 101, Kit.GET, x.make(-1), 0), "an ordinary OBJECT can not be called");
    }

    private static void wrong(Check t) {
        ObjectRules x = new ObjectRules();
        t.illegal(() -> x.make(-2), "the one that comes to be is not there yet");
        x.make(-1);
        int[] none = {-3, -4, -602, 0, 1, 999, 1000, 1249, 1250, Integer.MAX_VALUE, Integer.MIN_VALUE};
        for (int v : none) {
            t.illegal(() -> x.make(v), "make(" + v + ")");
        }
        t.is(1, x.count(0), "none came to be");
    }

    private static void full(Check t) {
        ObjectRules x = Fill.objects(599);
        t.is(-601, x.make(-1), "OBJECT 599, the last");
        t.is(600, x.count(0), "600 OBJECTS");
        t.full(() -> x.make(-1), "one more");
        t.illegal(() -> x.make(5), "no OBJECT is told before FULL");
        t.illegal(() -> x.make(-602), "OBJECT 600 is none");
        t.is(600, x.count(0), "600 OBJECTS still");
        t.is(-1, x.parent(-601), "the last is there");
    }
}
