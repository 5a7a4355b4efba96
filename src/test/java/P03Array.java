/** Promise 3: array, and what the standard's 10.4.2 asks of ARRAYS. */
public final class P03Array {
    public static void main(String[] args) {
        Check t = new Check();
        ordinary(t);
        growing(t);
        shrinking(t);
        lengths(t);
        wrong(t);
        full(t);
        t.end();
    }

    private static void ordinary(Check t) {
        ObjectRules x = new ObjectRules();
        for (int n : new int[] {0, 1, 3, 99, 100}) {
            int a = x.array(n);
            t.data(x, a, 100, 1, n, "array(" + n + ") length");
            t.keys(x, a, "array(" + n + ")", 100);
            t.is(-1, x.parent(a), "array(" + n + ") prototype");
            t.yes(x.open(a), "array(" + n + ") is extensible");
            t.no(x.has(a, 0, true), "array(" + n + ") has no elements");
        }
        t.is(5, x.count(0), "OBJECTS");
        t.no(x.remove(-2, 100), "its length stays");
        t.typeError(() -> x.define(x.make(-1), 101, Kit.GET, -2, 0), "an ARRAY can not be called");
    }

    private static void growing(Check t) {
        ObjectRules x = new ObjectRules();
        int a = x.array(3);
        t.yes(x.set(a, 2, 9, 0, true), "an element below the length");
        t.is(3, x.get(a, 100, 0, true), "the length stays");
        t.yes(x.set(a, 3, 9, 0, true), "an element at the length");
        t.is(4, x.get(a, 100, 0, true), "the length is behind it");
        t.yes(x.define(a, 99, 0, -1, -1), "an element far behind");
        t.is(100, x.get(a, 100, 0, true), "the length is 100");
        t.yes(x.remove(a, 3), "an element goes");
        t.is(100, x.get(a, 100, 0, true), "the length does not go with it");
        t.yes(x.set(a, 101, 1, 0, true), "another String");
        t.yes(x.set(a, 200, 1, 0, true), "a Symbol");
        t.is(100, x.get(a, 100, 0, true), "they are no elements");
        t.keys(x, a, "the order", 2, 99, 100, 101, 200);

        int fixed = x.array(2);
        t.yes(x.define(fixed, 100, Kit.WRITABLE, 0, 0), "the length may be fixed");
        t.yes(x.set(fixed, 1, 5, 0, true), "an element below a fixed length");
        t.no(x.set(fixed, 2, 5, 0, true), "an element at a fixed length");
        t.no(x.define(fixed, 50, Kit.VALUE, 5, 0), "an element behind a fixed length");
        t.yes(x.set(fixed, 101, 5, 0, true), "another String is not held by it");
        t.no(x.set(fixed, 100, 2, 0, true), "a fixed length is not set");
        t.yes(x.define(fixed, 100, Kit.VALUE, 2, 0), "a fixed length may be defined as it is");
        t.yes(x.define(fixed, 100, Kit.VALUE, Kit.value(2), 0), "or as the String of what it is");
        t.data(x, fixed, 100, 0, 2, "it is a Number still");
        t.no(x.define(fixed, 100, Kit.VALUE, 1, 0), "but no other");
        t.no(x.define(fixed, 100, Kit.WRITABLE_TRUE, 0, 0), "it is not made writable again");

        int closed = x.array(1);
        x.shut(closed);
        t.no(x.set(closed, 0, 1, 0, true), "no new element if it is not extensible");
        t.no(x.set(closed, 7, 1, 0, true), "nor one behind");
        t.is(1, x.get(closed, 100, 0, true), "the length stays if the element does not come");
        t.yes(x.set(closed, 100, 9, 0, true), "the length may be set");
        t.is(9, x.get(closed, 100, 0, true), "it is");
    }

    private static void shrinking(Check t) {
        ObjectRules x = new ObjectRules();
        int a = x.array(0);
        for (int i = 0; i < 8; i++) {
            x.set(a, i, i, 0, true);
        }
        t.yes(x.set(a, 100, 6, 0, true), "a lower length");
        t.keys(x, a, "what is behind goes", 0, 1, 2, 3, 4, 5, 100);
        x.define(a, 2, Kit.CONFIGURABLE, 0, 0);
        t.no(x.set(a, 100, 1, 0, true), "an element that stays stops it");
        t.keys(x, a, "those behind it are gone", 0, 1, 2, 100);
        t.data(x, a, 100, 1, 3, "the length is behind it");
        t.no(x.define(a, 100, Kit.VALUE | Kit.WRITABLE, 0, 0), "stopped again, and fixed");
        t.data(x, a, 100, 0, 3, "the length is fixed though it was stopped");

        int b = x.array(5);
        x.set(b, 4, 4, 0, true);
        t.yes(x.define(b, 100, Kit.VALUE | Kit.WRITABLE, 2, 0), "a lower length that is fixed");
        t.data(x, b, 100, 0, 2, "it is lower and fixed");
        t.keys(x, b, "the elements are gone", 100);
        t.yes(x.define(x.array(5), 100, Kit.VALUE | Kit.WRITABLE_TRUE, 2, 0), "a lower length that stays writable");

        int c = x.array(5);
        x.set(c, 4, 4, 0, true);
        t.no(x.define(c, 100, Kit.VALUE | Kit.ENUMERABLE_TRUE, 2, 0), "the length is not made enumerable");
        t.no(x.define(c, 100, Kit.VALUE | Kit.CONFIGURABLE_TRUE, 9, 0), "nor configurable");
        t.no(x.define(c, 100, Kit.GET, -1, 0), "nor an accessor");
        t.is(5, x.get(c, 100, 0, true), "and nothing changed");
        t.yes(x.has(c, 4, true), "the element is there");
    }

    private static void lengths(Check t) {
        ObjectRules x = new ObjectRules();
        int a = x.array(4);
        t.yes(x.set(a, 100, 999, 0, true), "the greatest Number");
        t.is(999, x.get(a, 100, 0, true), "is a length");
        t.yes(x.set(a, 99, 1, 0, true), "an element below it");
        t.is(999, x.get(a, 100, 0, true), "does not lower it");
        t.yes(x.set(a, 100, Kit.value(7), 0, true), "the String \"7\"");
        t.is(7, x.get(a, 100, 0, true), "is the Number 7");
        t.yes(x.set(a, 100, Kit.value(99), 0, true), "the String \"99\"");
        t.is(99, x.get(a, 100, 0, true), "is the Number 99");
        t.no(x.has(a, 99, true), "element 99 is gone");
        t.rangeError(() -> x.set(a, 100, Kit.value(100), 0, true), "the String \"length\"");
        t.rangeError(() -> x.set(a, 100, Kit.value(199), 0, true), "a String that is no number");
        t.rangeError(() -> x.set(a, 100, -1, 0, true), "undefined");
        t.typeError(() -> x.set(a, 100, Kit.value(200), 0, true), "a Symbol");
        t.typeError(() -> x.set(a, 100, Kit.value(249), 0, true), "the last Symbol");
        t.typeError(() -> x.set(a, 100, a, 0, true), "an OBJECT");
        t.rangeError(() -> x.define(a, 100, Kit.VALUE | Kit.GET & 0, -1, 0), "defined as undefined");
        t.is(99, x.get(a, 100, 0, true), "nothing changed");
        t.yes(x.define(a, 100, 0, -1, -1), "a descriptor without fields");
        x.define(a, 100, Kit.WRITABLE, 0, 0);
        t.rangeError(() -> x.define(a, 100, Kit.VALUE, -1, 0), "the Number is looked at before what is fixed");
        t.no(x.set(a, 100, -1, 0, true), "but [[Set]] does not come so far");

        int o = x.make(-1);
        t.yes(x.set(o, 100, -1, 0, true), "another OBJECT's length is like any property");
    }

    private static void wrong(Check t) {
        ObjectRules x = new ObjectRules();
        for (int n : new int[] {-1, -2, 101, 1000, Integer.MAX_VALUE, Integer.MIN_VALUE}) {
            t.illegal(() -> x.array(n), "array(" + n + ")");
        }
        t.is(0, x.count(0), "none came to be");
    }

    private static void full(Check t) {
        ObjectRules x = Fill.objects(599);
        t.is(-601, x.array(5), "OBJECT 599, the last");
        t.full(() -> x.array(5), "one OBJECT more");
        t.illegal(() -> x.array(101), "a wrong length is told before FULL");

        ObjectRules y = Fill.properties();
        int before = y.count(0);
        t.full(() -> y.array(0), "no room for its length");
        t.is(before, y.count(0), "it did not come to be");
        y.remove(-2, 5);
        t.is(-2 - before, y.array(1), "room for its length");
        t.full(() -> y.set(-2 - before, 1, 1, 0, true), "no room for an element");
        t.is(1, y.get(-2 - before, 100, 0, true), "its length is not behind an element that did not come");
        t.full(() -> y.array(0), "full again");
        t.is(before + 1, y.count(0), "only one came to be");
    }
}
