/** FULL: more than 2,000 FUNCTIONS in one call. */
public final class LimitsOfCalls {
    public static void main(String[] args) {
        Check t = new Check();
        ObjectRules x = new ObjectRules();
        int from = x.make(-1);
        for (int i = 0; i < 9; i++) {
            x.define(from, 200 + i, Kit.GET, x.function(1, 201 + i, 0), 0);
        }
        x.define(from, 209, Kit.VALUE, 3, 0);
        int first = x.function(1, 200, 0);
        for (int key = 0; key < 200; key++) {
            x.define(from, key, Kit.GET | Kit.ENUMERABLE_TRUE, first, 0);
        }
        int to = x.make(-1);
        t.is(200, x.assign(to, from), "200 with 10 FUNCTIONS each");
        t.is(2000, x.count(1), "2,000 FUNCTIONS in one call");
        t.is(first, x.call(0), "the first");
        t.is(first, x.call(1990), "the first of the last ten");
        t.is(-11, x.call(1999), "the last");
        t.is(-1, x.call(2000), "there are no more");

        x.define(from, 210, Kit.GET | Kit.ENUMERABLE_TRUE, x.function(0, 0, 4), 0);
        int fresh = x.make(-1);
        t.full(() -> x.assign(fresh, from), "one more");
        t.is(2000, x.count(1), "was not called");
        t.is(200, x.keys(fresh, false), "what was done stays");
        t.is(3, x.get(fresh, 199, 0, true), "the last that was set");
        t.is(3, x.get(from, 0, 0, true), "the next call");
        t.is(10, x.count(1), "begins anew");
        t.end();
    }
}
