/** Promises 13 and 14: "they are THE KEYS then (none at first)"; "IndexOutOfBoundsException: no such one." */
public final class EdgesOfTheKeys {
    private static final int[] NEVER = {-1, -2, 250, 251, 999, Integer.MAX_VALUE, Integer.MIN_VALUE};

    public static void main(String[] args) {
        Check t = new Check();
        noneAtFirst(t);
        numbers(t);
        held(t);
        stays(t);
        noneAgain(t);
        duplicates(t);
        t.end();
    }

    private static void noneAtFirst(Check t) {
        ObjectRules x = new ObjectRules();
        t.is(0, x.count(2), "none at first");
        t.outside(() -> x.key(0), "key(0) at first");
        for (int i : NEVER) {
            t.outside(() -> x.key(i), "key(" + i + ") at first");
        }
        int o = x.make(-1);
        x.set(o, 101, 1, 0, true);
        t.outside(() -> x.key(0), "nothing was asked for");
        t.is(1, x.keys(o, false), "asked for but not held");
        t.outside(() -> x.key(0), "none still");
        t.is(0, x.count(2), "THE KEYS");
    }

    /** With n of them the last is n - 1, and n is no such one. */
    private static void numbers(Check t) {
        for (int n : new int[] {0, 1, 2, 100, 101, 249, 250}) {
            ObjectRules x = new ObjectRules();
            int o = x.make(-1);
            for (int key = 0; key < n; key++) {
                x.set(o, key, 1, 0, true);
            }
            t.is(n, x.keys(o, true), n + " KEYS");
            t.is(n, x.count(2), "THE KEYS are " + n);
            if (n > 0) {
                t.is(0, x.key(0), "the first of " + n);
                t.is(n - 1, x.key(n - 1), "the last of " + n);
            }
            t.outside(() -> x.key(n), "one behind the last of " + n);
            for (int i : NEVER) {
                t.outside(() -> x.key(i), "key(" + i + ") of " + n);
            }
        }
    }

    private static void held(Check t) {
        ObjectRules x = new ObjectRules();
        int o = x.make(-1);
        x.set(o, 200, 1, 0, true);
        x.set(o, 101, 1, 0, true);
        x.keys(o, true);
        x.remove(o, 101);
        x.remove(o, 200);
        x.set(o, 7, 1, 0, true);
        t.is(101, x.key(0), "they are those of that call");
        t.is(200, x.key(1), "though they are gone");
        t.outside(() -> x.key(2), "and another came");
        t.is(1, x.keys(o, false), "not held");
        t.is(200, x.key(1), "they stay");
        t.is(1, x.keys(o, true), "held");
        t.is(7, x.key(0), "they are others then");
        t.outside(() -> x.key(1), "and fewer");
    }

    private static void stays(Check t) {
        ObjectRules x = World.make();
        int missing = Kit.proxyGiving(x, World.PLAIN, Kit.TRAP_KEYS, x.array(0));
        t.typeError(() -> x.keys(World.REVOKED, true), "a TypeError");
        t.thrown(() -> x.keys(World.THROWING_PROXY, true), "a trap that throws");
        t.illegal(() -> x.keys(-602, true), "a call that is refused");
        t.full(() -> x.keys(Kit.chain(x, World.PLAIN, 41), true), "FULL");
        t.typeError(() -> x.keys(missing, true), "a list that misses a fixed one");
        x.assign(World.EMPTY, World.ARRAY);
        x.level(World.EMPTY, true, true);
        t.is(2, x.count(2), "THE KEYS stay");
        t.is(101, x.key(0), "the first");
        t.is(102, x.key(1), "the last");
        t.outside(() -> x.key(2), "no such one");
    }

    private static void noneAgain(Check t) {
        ObjectRules x = World.make();
        t.is(0, x.keys(World.EMPTY, true), "an OBJECT without properties");
        t.is(0, x.count(2), "THE KEYS are none");
        t.outside(() -> x.key(0), "no such one");
        t.is(0, x.keys(Kit.proxyGiving(x, World.EMPTY, Kit.TRAP_KEYS, x.array(0)), true), "an empty list");
        t.outside(() -> x.key(0), "no such one");
    }

    /** The last element of a list may be any KEY but those before it. */
    private static void duplicates(Check t) {
        ObjectRules x = new ObjectRules();
        int list = x.array(0);
        for (int i = 0; i < 99; i++) {
            x.set(list, i, 1000 + i, 0, true);
        }
        int p = Kit.proxyGiving(x, x.make(-1), Kit.TRAP_KEYS, list);
        t.is(99, x.keys(p, true), "99 KEYS");
        x.set(list, 99, 1098, 0, true);
        t.typeError(() -> x.keys(p, true), "the 100th is the 99th again");
        x.set(list, 99, 1000, 0, true);
        t.typeError(() -> x.keys(p, true), "the 100th is the first again");
        t.is(99, x.count(2), "THE KEYS stay");
        x.set(list, 99, 1249, 0, true);
        t.is(100, x.keys(p, true), "the 100th is another");
        t.is(249, x.key(99), "it is the last");
        t.outside(() -> x.key(100), "no such one");
        x.set(list, 100, 101, 0, true);
        t.typeError(() -> x.keys(p, true), "a 101st element is not there");
    }
}
