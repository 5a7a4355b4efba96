/** Promise 3: "A new ARRAY of that length, 0 to 100 (else IllegalArgumentException), without elements." */
public final class EdgesOfLengths {
    public static void main(String[] args) {
        Check t = new Check();
        range(t);
        atTheLength(t);
        fixed(t);
        shrinking(t);
        lengthsThatAreSet(t);
        lengthsOfLists(t);
        t.end();
    }

    private static void range(Check t) {
        for (int n = 0; n <= 100; n++) {
            ObjectRules x = new ObjectRules();
            t.is(-2, x.array(n), "array(" + n + ")");
            t.same(" parent -1 open 100=1/" + n + "/-1", State.ofOne(x, -2), "array(" + n + ")");
        }
        ObjectRules x = new ObjectRules();
        for (int n : new int[] {-1, -2, 101, 102, 250, 999, 1000, 1100, Integer.MAX_VALUE, Integer.MIN_VALUE}) {
            t.illegal(() -> x.array(n), "array(" + n + ")");
            t.is(0, x.count(0), "it did not come to be, " + n);
        }
    }

    /** The index below the length, at it, and behind it. */
    private static void atTheLength(Check t) {
        ObjectRules x = new ObjectRules();
        int a = x.array(5);
        t.yes(x.set(a, 4, 1, 0, true), "below it");
        t.is(5, x.get(a, 100, 0, true), "it stays");
        t.yes(x.set(a, 5, 1, 0, true), "at it");
        t.is(6, x.get(a, 100, 0, true), "it is one more");
        t.yes(x.set(a, 7, 1, 0, true), "behind it");
        t.is(8, x.get(a, 100, 0, true), "it is behind the new one");
        int full = x.array(100);
        t.yes(x.set(full, 99, 1, 0, true), "the last index below 100");
        t.is(100, x.get(full, 100, 0, true), "it stays");
        int last = x.array(99);
        t.yes(x.set(last, 99, 1, 0, true), "the last index at 99");
        t.is(100, x.get(last, 100, 0, true), "it is 100");
        int none = x.array(0);
        t.yes(x.define(none, 0, 0, 0, 0), "the first index at 0");
        t.is(1, x.get(none, 100, 0, true), "it is 1");
    }

    private static void fixed(Check t) {
        ObjectRules x = new ObjectRules();
        int a = x.array(5);
        t.yes(x.define(a, 100, Kit.WRITABLE, 0, 0), "fixed");
        t.yes(x.set(a, 4, 1, 0, true), "below it");
        t.no(x.set(a, 5, 1, 0, true), "at it");
        t.no(x.define(a, 99, 0, 0, 0), "behind it");
        t.no(x.set(a, 100, 5, 0, true), "set to what it is");
        t.yes(x.define(a, 100, Kit.VALUE, 5, 0), "defined as what it is");
        t.no(x.define(a, 100, Kit.VALUE, 4, 0), "one less");
        t.no(x.define(a, 100, Kit.VALUE, 6, 0), "one more");
        t.same(" parent -1 open 4=7/1/-1 100=0/5/-1", State.ofOne(x, a), "it stays");
        int none = x.array(0);
        x.define(none, 100, Kit.WRITABLE, 0, 0);
        t.no(x.set(none, 0, 1, 0, true), "the first index at a fixed 0");
        t.yes(x.set(none, 101, 1, 0, true), "what is no index");
    }

    private static void shrinking(Check t) {
        ObjectRules x = new ObjectRules();
        int a = x.array(0);
        for (int i = 0; i < 100; i++) {
            x.set(a, i, i, 0, true);
        }
        t.yes(x.set(a, 100, 99, 0, true), "one less");
        t.no(x.has(a, 99, true), "the last element is gone");
        t.yes(x.has(a, 98, true), "the one before it is there");
        t.yes(x.set(a, 100, 1, 0, true), "1");
        t.same(" parent -1 open 0=7/0/-1 100=1/1/-1", State.ofOne(x, a), "the first is left");
        x.define(a, 0, Kit.CONFIGURABLE, 0, 0);
        t.no(x.set(a, 100, 0, 0, true), "0, but the first stays");
        t.is(1, x.get(a, 100, 0, true), "so it is 1");
        int b = x.array(100);
        x.define(b, 99, 0, 0, 0);
        t.no(x.set(b, 100, 0, 0, true), "0, but the last stays");
        t.is(100, x.get(b, 100, 0, true), "so it is 100");
        t.yes(x.set(b, 100, 999, 0, true), "999");
        t.no(x.set(b, 100, 99, 0, true), "99, which the last is not below");
        t.is(100, x.get(b, 100, 0, true), "so it is 100 again");
        t.yes(x.set(b, 100, 100, 0, true), "100, which it is");
    }

    /** By [[Set]] and [[DefineOwnProperty]] it may be any Number: 0 to 999. */
    private static void lengthsThatAreSet(Check t) {
        ObjectRules x = new ObjectRules();
        int a = x.array(50);
        for (int v : new int[] {0, 1, 99, 100, 101, 998, 999}) {
            t.yes(x.set(a, 100, v, 0, true), "set to " + v);
            t.is(v, x.get(a, 100, 0, true), "it is " + v);
        }
        t.yes(x.set(a, 99, 1, 0, true), "the last index is below 999");
        t.is(999, x.get(a, 100, 0, true), "which stays");
        String before = State.ofOne(x, a);
        t.rangeError(() -> x.set(a, 100, -1, 0, true), "undefined");
        t.rangeError(() -> x.set(a, 100, 1100, 0, true), "\"length\"");
        t.typeError(() -> x.set(a, 100, 1200, 0, true), "a Symbol");
        t.illegal(() -> x.set(a, 100, 1250, 0, true), "no VALUE");
        t.rangeError(() -> x.define(a, 100, Kit.VALUE | Kit.WRITABLE | Kit.CONFIGURABLE_TRUE, -1, 0), "before what does not fit");
        t.no(x.define(a, 100, Kit.VALUE | Kit.CONFIGURABLE_TRUE, 5, 0), "which is refused alone");
        t.same(before, State.ofOne(x, a), "it stays");
    }

    /** ToLength, where a list is read: what is no number is 0. */
    private static void lengthsOfLists(Check t) {
        ObjectRules x = new ObjectRules();
        int target = x.make(-1);
        int[] lengths = {-1, 0, 1000, 1100, 1199, 1, 1001, 2, 1002};
        int[] due = {0, 0, 0, 0, 0, 1, 1, 2, 2};
        for (int i = 0; i < lengths.length; i++) {
            int list = Kit.valueOf(x, new int[] {100, 0, 1}, new int[] {lengths[i], 1101, 1102});
            t.is(due[i], x.keys(Kit.proxyGiving(x, target, Kit.TRAP_KEYS, list), true), "a length of " + lengths[i]);
        }
        for (int v : new int[] {3, 101, 999, 1003, 1099}) {
            int list = Kit.valueOf(x, new int[] {100, 0, 1}, new int[] {v, 1101, 1102});
            int p = Kit.proxyGiving(x, target, Kit.TRAP_KEYS, list);
            t.typeError(() -> x.keys(p, true), "a length of " + v + ", but no third element");
        }
        for (int v : new int[] {1200, 1249, target}) {
            int list = Kit.valueOf(x, new int[] {100}, new int[] {v});
            int p = Kit.proxyGiving(x, target, Kit.TRAP_KEYS, list);
            t.typeError(() -> x.keys(p, true), "a length of " + v);
        }
        t.is(2, x.count(2), "THE KEYS stay");
    }
}
