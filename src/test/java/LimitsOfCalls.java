/** FULL: "more than 2,000 FUNCTIONS in one call". */
public final class LimitsOfCalls {
    public static void main(String[] args) {
        Check t = new Check();
        getters(t);
        theSetterIsTooMuch(t);
        theTrapIsTooMuch(t);
        theThrowerIsTooMuch(t);
        t.end();
    }

    /** An OBJECT (VALUE -2) whose n properties from KEY 0 on call 10 FUNCTIONS each, the last of them being VALUE -11. */
    private static ObjectRules tens(int n) {
        ObjectRules x = new ObjectRules();
        int from = x.make(-1);
        for (int i = 0; i < 9; i++) {
            x.define(from, 200 + i, Kit.GET, x.function(1, 201 + i, 0), 0);
        }
        x.define(from, 209, Kit.VALUE, 3, 0);
        int first = x.function(1, 200, 0);
        for (int key = 0; key < n; key++) {
            x.define(from, key, Kit.GET | Kit.ENUMERABLE_TRUE, first, 0);
        }
        return x;
    }

    private static void getters(Check t) {
        ObjectRules x = tens(200);
        int from = -2;
        int first = -12;
        int to = x.make(-1);
        t.is(200, x.assign(to, from), "200 with 10 FUNCTIONS each");
        t.is(2000, x.count(1), "2,000 FUNCTIONS in one call");
        t.is(first, x.call(0), "the first");
        t.is(first, x.call(1990), "the first of the last ten");
        t.is(-11, x.call(1999), "the last");
        t.is(-1, x.call(2000), "there are no more");

        x.define(from, 210, Kit.GET | Kit.ENUMERABLE_TRUE, x.function(0, 0, 4), 0);
        int fresh = x.make(-1);
        t.full(() -> x.assign(fresh, from), "one more");
        t.is(2000, x.count(1), "was not called");
        t.is(-11, x.call(1999), "the last that was");
        t.is(-1, x.call(2000), "there are no more");
        t.is(200, x.keys(fresh, false), "what was done stays");
        t.is(3, x.get(fresh, 199, 0, true), "the last that was set");
        t.is(3, x.get(from, 0, 0, true), "the next call");
        t.is(10, x.count(1), "begins anew");
        t.full(() -> x.assign(fresh, from), "once more");
        t.is(2000, x.count(1), "2,000 again");
    }

    private static void theSetterIsTooMuch(Check t) {
        ObjectRules x = tens(200);
        int to = x.make(-1);
        int sets = x.function(2, 249, 0);
        x.define(to, 199, Kit.SET, 0, sets);
        t.full(() -> x.assign(to, -2), "a setter as the 2,001st");
        t.is(2000, x.count(1), "it was not called");
        t.no(x.has(to, 249, true), "so it set nothing");
        t.is(200, x.keys(to, false), "all but it were set");
    }

    /** Each property calls 10 FUNCTIONS and the trap: the 2,000th is the 9th of the 182nd property. */
    private static void theTrapIsTooMuch(Check t) {
        ObjectRules x = tens(199);
        int handler = Kit.handler(x, Kit.TRAP_SET, 4, 0);
        int target = x.make(-1);
        int to = x.proxy(target, handler);
        t.full(() -> x.assign(to, -2), "traps beside getters");
        t.is(2000, x.count(1), "2,000 were called");
        t.is(Kit.functionOf(handler), x.call(1990), "the 181st trap");
        t.is(-10, x.call(1999), "the 9th of the 182nd");
        t.is(-1, x.call(2000), "there are no more");
        t.is(181, x.keys(target, false), "181 were set");
        int plain = x.make(-1);
        x.set(plain, 101, 1, 0, true);
        t.is(1, x.assign(to, plain), "the next call begins anew");
        t.is(1, x.count(1), "with one");
    }

    private static void theThrowerIsTooMuch(Check t) {
        ObjectRules x = tens(200);
        x.define(-2, 211, Kit.GET | Kit.ENUMERABLE_TRUE, x.function(3, 0, 44), 0);
        t.full(() -> x.assign(x.make(-1), -2), "a thrower as the 2,001st");
        t.is(-1, x.count(3), "it threw nothing");
        t.thrown(() -> x.get(-2, 211, 0, true), "alone it throws");
        t.is(44, x.count(3), "its VALUE");
    }
}
