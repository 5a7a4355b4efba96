/** Promise 13: keys. */
public final class P13Keys {
    public static void main(String[] args) {
        Check t = new Check();
        order(t);
        holding(t);
        traps(t);
        lists(t);
        invariants(t);
        wrong(t);
        limits(t);
        room(t);
        t.end();
    }

    private static void order(Check t) {
        ObjectRules x = new ObjectRules();
        int o = x.make(-1);
        t.keys(x, o, "none");
        for (int key : new int[] {201, 150, 7, 249, 101, 99, 0, 100, 200, 10, 199}) {
            x.set(o, key, 1, 0, true);
        }
        t.keys(x, o, "indices as they are, Strings and Symbols as they came",
                0, 7, 10, 99, 150, 101, 100, 199, 201, 249, 200);
        x.remove(o, 150);
        x.remove(o, 0);
        x.remove(o, 200);
        x.set(o, 150, 1, 0, true);
        x.set(o, 8, 1, 0, true);
        t.keys(x, o, "some removed, some new", 7, 8, 10, 99, 101, 100, 199, 150, 201, 249);
        x.define(o, 101, Kit.GET | Kit.ENUMERABLE, -1, 0);
        t.is(10, x.keys(o, false), "what is not enumerable is there too");
        t.is(0, x.keys(x.make(o), false), "the prototype's are not");
        int a = x.array(3);
        x.set(a, 150, 1, 0, true);
        x.set(a, 2, 1, 0, true);
        t.keys(x, a, "an ARRAY's", 2, 100, 150);
        int all = x.make(-1);
        for (int key = 249; key >= 0; key--) {
            x.set(all, key, 1, 0, true);
        }
        t.is(250, x.keys(all, true), "all KEYS");
        t.is(0, x.key(0), "the first");
        t.is(99, x.key(99), "the last index");
        t.is(199, x.key(100), "the first String");
        t.is(249, x.key(200), "the first Symbol");
        t.is(200, x.key(249), "the last");
    }

    private static void holding(Check t) {
        ObjectRules x = new ObjectRules();
        int o = x.make(-1);
        x.set(o, 101, 1, 0, true);
        t.is(1, x.keys(o, false), "not held");
        t.is(0, x.count(2), "THE KEYS are none");
        t.is(1, x.keys(o, true), "held");
        t.is(1, x.count(2), "THE KEYS are one");
        x.set(o, 102, 1, 0, true);
        t.is(1, x.count(2), "they are those of that time");
        t.is(2, x.keys(o, false), "not held");
        t.is(1, x.count(2), "THE KEYS stay");
        int p = Kit.revoked(x);
        t.typeError(() -> x.keys(p, true), "a call that throws");
        t.is(1, x.count(2), "THE KEYS stay");
        t.is(101, x.key(0), "as they were");
        t.is(0, x.keys(x.make(-1), true), "none");
        t.is(0, x.count(2), "THE KEYS are none");
    }

    private static void traps(Check t) {
        ObjectRules x = new ObjectRules();
        int target = x.make(-1);
        x.set(target, 101, 1, 0, true);
        x.set(target, 5, 1, 0, true);
        int handler = Kit.reflectingHandler(x);
        int p = x.proxy(target, handler);
        int before = x.count(0);
        t.keys(x, p, "the trap", 5, 101);
        t.is(handler - 1 - 6, x.call(0), "is called");
        t.is(1, x.count(1), "alone");
        t.is(before + 1, x.count(0), "CreateArrayFromList made one");
        int made = -2 - before;
        t.keys(x, made, "its elements", 0, 1, 100);
        t.data(x, made, 0, 7, 1005, "its first");
        t.data(x, made, 100, 1, 2, "its length");
        t.is(-1, x.parent(made), "it has no prototype");
        t.thrown(() -> x.keys(Kit.proxyThrowing(x, target, Kit.TRAP_KEYS, 1), true), "a trap that throws");
        t.keys(x, x.proxy(target, x.make(-1)), "no trap", 5, 101);
        int other = Kit.proxyGiving(x, target, Kit.TRAP_KEYS, Kit.list(x, 201, 7, 150, 3));
        t.keys(x, other, "any KEYS in any order", 201, 7, 150, 3);
        t.keys(x, Kit.proxyGiving(x, target, Kit.TRAP_KEYS, x.array(0)), "none");
        t.keys(x, Kit.proxyGiving(x, target, Kit.TRAP_KEYS, x.make(-1)), "an OBJECT without a length");
        int like = x.make(-1);
        x.set(like, 100, 1001, 0, true);
        x.set(like, 0, 1100, 0, true);
        t.keys(x, Kit.proxyGiving(x, target, Kit.TRAP_KEYS, like), "a length that is the String \"1\"", 100);
    }

    private static void lists(Check t) {
        ObjectRules x = new ObjectRules();
        int target = x.make(-1);
        for (int v : new int[] {-1, 0, 5, 1000, 1200}) {
            t.typeError(() -> x.keys(Kit.proxyGiving(x, target, Kit.TRAP_KEYS, v), true), "a list that is " + v);
        }
        for (int v : new int[] {-1, 0, 999, target}) {
            int a = x.array(0);
            x.set(a, 0, 1101, 0, true);
            x.set(a, 1, v, 0, true);
            t.typeError(() -> x.keys(Kit.proxyGiving(x, target, Kit.TRAP_KEYS, a), true), "an element that is " + v);
        }
        t.typeError(() -> x.keys(Kit.proxyGiving(x, target, Kit.TRAP_KEYS, x.array(1)), true), "an element that is not there");
        int twice = Kit.list(x, 101, 200, 101);
        t.typeError(() -> x.keys(Kit.proxyGiving(x, target, Kit.TRAP_KEYS, twice), true), "a KEY twice");
        for (int v : new int[] {1200, target}) {
            int like = x.make(-1);
            x.set(like, 100, v, 0, true);
            t.typeError(() -> x.keys(Kit.proxyGiving(x, target, Kit.TRAP_KEYS, like), true), "a length that is " + v);
        }
        for (int v : new int[] {-1, 0, 1100, 1150}) {
            int like = x.make(-1);
            x.set(like, 100, v, 0, true);
            t.keys(x, Kit.proxyGiving(x, target, Kit.TRAP_KEYS, like), "a length that is 0 by ToLength: " + v);
        }
        int handler = Kit.handler(x, Kit.TRAP_GET, 0, 1001);
        int one = x.proxy(target, handler);
        t.keys(x, Kit.proxyGiving(x, target, Kit.TRAP_KEYS, one), "a list that answers \"1\" to all", 1);
        t.is(3, x.count(1), "its length and its element are read");
        int early = x.make(-1);
        x.set(early, 100, 2, 0, true);
        x.set(early, 0, 5, 0, true);
        x.define(early, 1, Kit.GET, x.function(3, 0, 7), 0);
        t.typeError(() -> x.keys(Kit.proxyGiving(x, target, Kit.TRAP_KEYS, early), true), "what is no KEY is told at once");
        t.is(1, x.count(1), "the next is not read");

        int last = x.make(-1);
        x.define(last, 0, Kit.GET, x.function(0, 0, 1101), 0);
        x.define(last, 1, Kit.GET, x.function(0, 0, 1101), 0);
        x.define(last, 2, Kit.GET, x.function(3, 0, 7), 0);
        x.set(last, 100, 3, 0, true);
        t.thrown(() -> x.keys(Kit.proxyGiving(x, target, Kit.TRAP_KEYS, last), true), "all are read before duplicates are told");
        x.set(last, 100, 999, 0, true);
        x.define(last, 2, 0, 0, 0);
        t.thrown(() -> x.keys(Kit.proxyGiving(x, target, Kit.TRAP_KEYS, last), true), "also of a long list");
    }

    private static void invariants(Check t) {
        ObjectRules x = new ObjectRules();
        int loosest = x.make(-1);
        x.set(loosest, 101, 1, 0, true);
        x.define(loosest, 102, 0, 0, 0);
        x.define(loosest, 103, Kit.CONFIGURABLE_TRUE, 0, 0);
        int fixed = Kit.list(x, 105, 102);
        int loose = Kit.list(x, 101, 103);
        int same = Kit.list(x, 103, 102, 101);
        int more = Kit.list(x, 103, 102, 101, 104);
        int fewer = Kit.list(x, 102, 101);
        int others = Kit.list(x, 102, 101, 104);
        t.keys(x, Kit.proxyGiving(x, loosest, Kit.TRAP_KEYS, fixed), "the fixed one is there", 105, 102);
        t.typeError(() -> x.keys(Kit.proxyGiving(x, loosest, Kit.TRAP_KEYS, loose), true), "the fixed one is missed");
        t.keys(x, Kit.proxyGiving(x, loosest, Kit.TRAP_KEYS, more), "more than there are", 103, 102, 101, 104);
        x.define(loosest, 104, Kit.ENUMERABLE_TRUE, 0, 0);
        t.typeError(() -> x.keys(Kit.proxyGiving(x, loosest, Kit.TRAP_KEYS, fixed), true), "a fixed one that is enumerable is missed");

        int target = x.make(-1);
        x.set(target, 101, 1, 0, true);
        x.define(target, 102, 0, 0, 0);
        x.set(target, 103, 1, 0, true);
        x.shut(target);
        t.keys(x, Kit.proxyGiving(x, target, Kit.TRAP_KEYS, same), "not extensible: the same", 103, 102, 101);
        t.typeError(() -> x.keys(Kit.proxyGiving(x, target, Kit.TRAP_KEYS, more), true), "not extensible: more");
        t.typeError(() -> x.keys(Kit.proxyGiving(x, target, Kit.TRAP_KEYS, fewer), true), "not extensible: fewer");
        t.typeError(() -> x.keys(Kit.proxyGiving(x, target, Kit.TRAP_KEYS, others), true), "not extensible: others");

        int single = x.make(-1);
        x.define(single, 102, 0, 0, 0);
        t.typeError(() -> x.keys(Kit.proxyGiving(x, single, Kit.TRAP_KEYS, loose), true), "the only one is missed");
        t.typeError(() -> x.keys(Kit.proxyGiving(x, single, Kit.TRAP_KEYS, x.array(0)), true), "by a list of none");

        int inner = x.make(-1);
        x.set(inner, 101, 1, 0, true);
        x.set(inner, 102, 1, 0, true);
        int handler = Kit.reflectingHandler(x);
        int outer = Kit.proxyGiving(x, x.proxy(inner, handler), Kit.TRAP_KEYS, Kit.list(x, 5));
        t.keys(x, outer, "a PROXY as target", 5);
        t.is(5, x.count(1), "is asked for all its properties");
        t.is(handler - 1 - 9, x.call(1), "isExtensible first");
        t.is(handler - 1 - 6, x.call(2), "then ownKeys");
        t.is(handler - 1 - 5, x.call(3), "then each property");
        t.is(handler - 1 - 5, x.call(4), "of the two");
    }

    private static void wrong(Check t) {
        ObjectRules x = new ObjectRules();
        for (int v : new int[] {-1, 0, 1000, -2, Integer.MAX_VALUE, Integer.MIN_VALUE}) {
            t.illegal(() -> x.keys(v, true), "no OBJECT " + v);
        }
        t.is(0, x.count(2), "THE KEYS are none");
    }

    private static void limits(Check t) {
        ObjectRules x = new ObjectRules();
        int target = x.make(-1);
        for (int key = 0; key < 100; key++) {
            x.set(target, key, 1, 0, true);
        }
        int p = Kit.proxyReflecting(x, target, Kit.TRAP_KEYS);
        t.is(100, x.keys(p, true), "CreateArrayFromList of 100");
        int before = x.count(0);
        x.set(target, 101, 1, 0, true);
        t.full(() -> x.keys(p, true), "CreateArrayFromList of 101");
        t.is(before, x.count(0), "it did not come to be");
        t.is(100, x.count(2), "THE KEYS stay");
        t.is(101, x.keys(target, true), "the target itself has them");
        t.is(101, x.keys(x.proxy(target, x.make(-1)), true), "so has a PROXY without the trap");

        int like = x.make(-1);
        x.assign(like, target);
        for (int i = 0; i < 100; i++) {
            x.set(like, i, Kit.value(i), 0, true);
        }
        int length = x.function(0, 0, 101);
        x.define(like, 100, Kit.GET, length, 0);
        int q = Kit.proxyGiving(x, x.make(-1), Kit.TRAP_KEYS, like);
        t.typeError(() -> x.keys(q, true), "a list of 101 has the element \"100\", which is undefined");
        t.is(2, x.count(1), "the trap and the length were called once");
    }

    /** Lists of earlier calls, and of those that threw, take no room from later ones. */
    private static void room(Check t) {
        ObjectRules x = new ObjectRules();
        int o = x.make(-1);
        for (int key = 0; key < 250; key++) {
            x.set(o, key, 1, 0, true);
        }
        int p = Kit.proxyThrowing(x, o, Kit.TRAP_OWN, 1);
        for (int i = 0; i < 60; i++) {
            x.keys(o, false);
            t.thrown(() -> x.assign(o, p), "a list is left behind");
        }
        t.is(250, x.keys(o, true), "all KEYS, late");
        t.is(0, x.key(0), "the first, late");
        t.is(249, x.key(249), "the last, late");
    }
}
