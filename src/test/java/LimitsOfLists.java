/** FULL: "CreateArrayFromList of more than 100 (looked at before it comes to be)". */
public final class LimitsOfLists {
    public static void main(String[] args) {
        Check t = new Check();
        length(t, 0, 0);
        length(t, 1, 0);
        length(t, 99, 0);
        length(t, 100, 0);
        length(t, 100, 150);
        length(t, 101, 0);
        length(t, 101, 149);
        length(t, 250, 0);
        otherLists(t);
        whatAsksForLists(t);
        listsThatAreRead(t);
        t.end();
    }

    /** A target with n KEYS from first on, and a PROXY whose trap makes a list of them. */
    private static void length(Check t, int n, int first) {
        ObjectRules x = new ObjectRules();
        int target = x.make(-1);
        for (int i = 0; i < n; i++) {
            x.set(target, first + i, 1, 0, true);
        }
        int handler = Kit.handler(x, Kit.TRAP_KEYS, 4, 0);
        int p = x.proxy(target, handler);
        x.keys(handler, true);
        int made = -2 - x.count(0);
        if (n > 100) {
            t.full(() -> x.keys(p, true), "a list of " + n);
            t.called(x, "the trap was called, " + n, Kit.functionOf(handler));
            t.is(-2 - made, x.count(0), "it did not come to be, " + n);
            t.illegal(() -> x.open(made), "it is no OBJECT, " + n);
            t.is(1, x.count(2), "THE KEYS stay, " + n);
            t.is(Kit.TRAP_KEYS, x.key(0), "as they were, " + n);
        } else {
            t.is(n, x.keys(p, true), "a list of " + n);
            t.is(-2 - made + 1, x.count(0), "it came to be, " + n);
            t.is(n, x.get(made, 100, 0, true), "its length, " + n);
            t.is(n == 0 ? -1 : 1000 + first + n - 1, n == 0 ? -1 : x.get(made, n - 1, 0, true), "its last element, " + n);
            t.is(n, x.count(2), "THE KEYS, " + n);
        }
    }

    /** Lists that no ARRAY is made of may be longer. */
    private static void otherLists(Check t) {
        ObjectRules x = new ObjectRules();
        int target = x.make(-1);
        for (int key = 0; key < 250; key++) {
            x.set(target, key, 1, 0, true);
        }
        t.is(250, x.keys(target, true), "no PROXY");
        t.is(250, x.keys(Kit.chain(x, target, 3), true), "PROXIES without the trap");
        t.is(249, x.key(249), "the last of THE KEYS");
        t.is(250, x.assign(x.make(-1), x.proxy(target, x.make(-1))), "assign");
        t.yes(x.level(x.proxy(target, x.make(-1)), false, true), "level");
    }

    private static void whatAsksForLists(Check t) {
        ObjectRules x = new ObjectRules();
        int target = x.make(-1);
        for (int key = 0; key < 101; key++) {
            x.set(target, key, 1, 0, true);
        }
        int p = Kit.proxyReflecting(x, target, Kit.TRAP_KEYS);
        int gives = x.proxy(target, Kit.handler(x, Kit.TRAP_KEYS, 5, x.array(0)));
        int outer = Kit.proxyGiving(x, p, Kit.TRAP_KEYS, x.array(0));
        int to = x.make(-1);
        int before = x.count(0);
        t.full(() -> x.keys(gives, true), "act 5 makes the list too");
        t.full(() -> x.keys(outer, true), "the target's list, where it is held to that");
        t.full(() -> x.assign(to, p), "assign");
        t.is(0, x.keys(to, false), "sets nothing");
        t.full(() -> x.level(p, false, true), "level");
        t.no(x.open(target), "has shut it till then");
        t.data(x, target, 0, 7, 1, "and nothing else");
        t.full(() -> x.level(p, true, true), "level that is asked");
        t.is(before, x.count(0), "no list came to be");
    }

    /** No KEY is the String "100", so no list has an element behind 100, whatever else it has. */
    private static void listsThatAreRead(Check t) {
        ObjectRules x = new ObjectRules();
        int list = x.make(-1);
        for (int key = 0; key < 250; key++) {
            x.set(list, key, 1000 + key, 0, true);
        }
        int p = Kit.proxyGiving(x, x.make(-1), Kit.TRAP_KEYS, list);
        x.set(list, 100, 100, 0, true);
        t.is(100, x.keys(p, true), "a list of 100 that is read");
        t.is(99, x.key(99), "its last element");
        for (int length : new int[] {101, 102, 250, 999}) {
            x.set(list, 100, length, 0, true);
            t.typeError(() -> x.keys(p, true), "a list of " + length + " that is read");
            t.is(100, x.count(2), "THE KEYS stay, " + length);
        }
    }
}
