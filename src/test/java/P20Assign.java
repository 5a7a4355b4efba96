/** Promise 20: assign. */
public final class P20Assign {
    public static void main(String[] args) {
        Check t = new Check();
        ordinary(t);
        calls(t);
        refused(t);
        wrong(t);
        full(t);
        t.end();
    }

    private static void ordinary(Check t) {
        ObjectRules x = new ObjectRules();
        int from = x.make(x.make(-1));
        int to = x.make(-1);
        t.is(0, x.assign(to, from), "nothing");
        x.set(x.parent(from), 105, 1, 0, true);
        x.set(from, 200, 4, 0, true);
        x.set(from, 101, 3, 0, true);
        x.set(from, 7, 2, 0, true);
        x.define(from, 102, Kit.VALUE, 9, 0);
        x.set(from, 103, -1, 0, true);
        x.set(to, 101, 8, 0, true);
        t.is(4, x.assign(to, from), "what is enumerable and own");
        t.keys(x, to, "in its order", 7, 101, 103, 200);
        t.data(x, to, 7, 7, 2, "an index");
        t.data(x, to, 101, 7, 3, "what was there");
        t.data(x, to, 103, 7, -1, "undefined is set too");
        t.data(x, to, 200, 7, 4, "a Symbol");
        t.is(4, x.assign(from, from), "to itself");
        int a = x.array(0);
        t.is(4, x.assign(a, from), "to an ARRAY");
        t.is(8, x.get(a, 100, 0, true), "which grows");
        t.is(4, x.assign(x.make(-1), a), "from an ARRAY, without its length");
        t.is(4, x.assign(x.function(0, 0, 0), from), "to a FUNCTION");
    }

    private static void calls(Check t) {
        ObjectRules x = new ObjectRules();
        int from = x.make(-1);
        int to = x.make(-1);
        int reads = x.function(1, 102, 0);
        int writes = x.function(2, 103, 0);
        x.define(from, 101, Kit.GET | Kit.ENUMERABLE_TRUE, reads, 0);
        x.define(from, 102, Kit.VALUE, 6, 0);
        x.define(to, 101, Kit.SET, 0, writes);
        t.is(1, x.assign(to, from), "get and set are called");
        t.called(x, "get, then set", reads, writes);
        t.is(6, x.get(to, 103, 0, true), "with the values of each");

        int handler = Kit.reflectingHandler(x);
        int source = x.make(-1);
        x.set(source, 104, 1, 0, true);
        x.define(source, 105, 0, 0, 0);
        x.set(source, 106, 2, 0, true);
        int p = x.proxy(source, handler);
        int own = handler - 1 - 5;
        int get = handler - 1;
        t.is(2, x.assign(to, p), "from a PROXY");
        t.called(x, "from a PROXY", handler - 1 - 6, own, get, own, own, get);
        int target = x.make(-1);
        t.is(2, x.assign(x.proxy(target, handler), source), "to a PROXY");
        int set = handler - 2;
        t.called(x, "to a PROXY", set, own, handler - 1 - 4, set, own, handler - 1 - 4);
        t.is(2, x.get(target, 106, 0, true), "its target has it");
        int thrower = x.make(-1);
        x.set(thrower, 101, 1, 0, true);
        x.define(thrower, 102, Kit.GET | Kit.ENUMERABLE_TRUE, x.function(3, 0, 44), 0);
        int fresh = x.make(-1);
        t.thrown(() -> x.assign(fresh, thrower), "a getter that throws");
        t.is(44, x.count(3), "its VALUE");
        t.keys(x, fresh, "what was done stays", 101);
    }

    private static void refused(Check t) {
        ObjectRules x = new ObjectRules();
        int from = x.make(-1);
        x.set(from, 101, 1, 0, true);
        x.set(from, 102, 2, 0, true);
        x.set(from, 103, 3, 0, true);
        int to = x.make(-1);
        x.define(to, 102, Kit.VALUE, 2, 0);
        t.typeError(() -> x.assign(to, from), "what can not be set");
        t.keys(x, to, "what was done stays", 102, 101);
        int closed = Kit.shutObject(x);
        t.typeError(() -> x.assign(closed, from), "one that is not extensible");
        t.is(0, x.assign(closed, x.make(-1)), "but nothing may be set");
        x.define(from, 100, Kit.VALUE | Kit.ENUMERABLE_TRUE, 1101, 0);
        t.rangeError(() -> x.assign(x.array(0), from), "a length that is none");
        int hidden = Kit.proxyGiving(x, from, Kit.TRAP_OWN, -1);
        int loose = x.make(-1);
        x.set(loose, 101, 1, 0, true);
        t.is(0, x.assign(x.make(-1), Kit.proxyGiving(x, loose, Kit.TRAP_OWN, -1)), "what is told away is not set");
        t.typeError(() -> x.assign(x.make(-1), hidden), "what may not be told away");
    }

    private static void wrong(Check t) {
        ObjectRules x = new ObjectRules();
        int o = x.make(-1);
        for (int v : new int[] {-1, 0, 1000, -3, Integer.MAX_VALUE, Integer.MIN_VALUE}) {
            t.illegal(() -> x.assign(v, o), "no OBJECT " + v);
            t.illegal(() -> x.assign(o, v), "from no OBJECT " + v);
        }
    }

    private static void full(Check t) {
        ObjectRules x = Fill.properties();
        x.remove(-2, 248);
        x.remove(-2, 249);
        int to = x.make(-1);
        t.full(() -> x.assign(to, -2), "a property more than 5,999");
        t.keys(x, to, "what was done stays", 0, 1);
    }
}
