/** Promise 4: "that act, 0 to 5", and what a FUNCTION does by it, where T is no object or it is called as no trap. */
public final class EdgesOfActs {
    private static final int[] NO_OBJECTS = {-1, 0, 1, 999, 1000, 1099, 1249};

    public static void main(String[] args) {
        Check t = new Check();
        range(t);
        withoutObject(t);
        withObject(t);
        noTrap(t);
        getterOfTrap(t);
        asTrap(t);
        arguments(t);
        t.end();
    }

    private static void range(Check t) {
        ObjectRules x = new ObjectRules();
        for (int act = 0; act <= 5; act++) {
            t.is(-2 - act, x.function(act, 0, 0), "act " + act);
        }
        for (int act : new int[] {-1, -2, 6, 7, 250, Integer.MAX_VALUE, Integer.MIN_VALUE}) {
            t.illegal(() -> x.function(act, 0, 0), "act " + act);
        }
        t.is(6, x.count(0), "none came to be");
        t.is(-8, x.function(5, 249, 1249), "the last KEY and the last String or Symbol");
        t.is(-9, x.function(0, 0, -8), "the last OBJECT");
        t.illegal(() -> x.function(0, 0, -10), "itself");
    }

    /** An OBJECT with a get and a set of that act at KEY 101. */
    private static int accessor(ObjectRules x, int act, int key, int v) {
        int o = x.make(-1);
        int f = x.function(act, key, v);
        x.define(o, 101, Kit.GET | Kit.SET, f, f);
        return o;
    }

    private static void withoutObject(Check t) {
        ObjectRules x = new ObjectRules();
        int[] due = {8, -1, -1, 0, -1, 8};
        for (int act = 0; act <= 5; act++) {
            int o = accessor(x, act, 102, 8);
            String before = State.ofOne(x, o);
            for (int v : NO_OBJECTS) {
                if (act == 3) {
                    t.thrown(() -> x.get(o, 101, v, false), "act 3, get with T " + v);
                    t.thrown(() -> x.set(o, 101, 5, v, false), "act 3, set with T " + v);
                } else {
                    t.is(due[act], x.get(o, 101, v, false), "act " + act + ", get with T " + v);
                    t.yes(x.set(o, 101, 5, v, false), "act " + act + ", set with T " + v);
                }
                t.is(1, x.count(1), "it was called, act " + act + " with T " + v);
            }
            t.same(before, State.ofOne(x, o), "nothing was set by act " + act);
        }
    }

    private static void withObject(Check t) {
        ObjectRules x = new ObjectRules();
        int first = x.make(-1);
        x.set(first, 102, 9, 0, true);
        int reads = accessor(x, 1, 102, 8);
        int writes = accessor(x, 2, 103, 8);
        int last = x.make(-1);
        t.is(9, x.get(reads, 101, first, false), "act 1 with the first OBJECT");
        t.is(-1, x.get(reads, 101, last, false), "act 1 with one that has no such property");
        t.yes(x.set(writes, 101, 5, last, false), "act 2 with the last OBJECT");
        t.is(5, x.get(last, 103, 0, true), "it was set");
        t.is(-1, x.get(writes, 101, last, false), "act 2 as get has no argument");
        t.data(x, last, 103, 7, -1, "so it sets undefined");
        x.shut(first);
        t.typeError(() -> x.set(writes, 101, 5, first, false), "act 2 throws what can not be set");
        t.typeError(() -> x.get(writes, 101, first, false), "also as get");
        t.no(x.has(first, 103, false), "it is not there");
        int a = x.array(2);
        int length = accessor(x, 2, 100, 0);
        t.yes(x.set(length, 101, 99, a, false), "act 2 with an ARRAY's length");
        t.rangeError(() -> x.set(length, 101, -1, a, false), "act 2 with what is none");
        t.is(99, x.get(a, 100, 0, true), "the length stays");
    }

    /** Act 4 gives undefined and act 5 its VALUE; neither does anything else, whatever its KEY names. */
    private static void noTrap(Check t) {
        ObjectRules x = new ObjectRules();
        int o = accessor(x, 4, Kit.TRAP_PREVENT_EXTENSIONS, 8);
        int p = accessor(x, 5, Kit.TRAP_PREVENT_EXTENSIONS, 8);
        String before = State.ofOne(x, o) + State.ofOne(x, p);
        t.is(-1, x.get(o, 101, 0, true), "act 4 as get");
        t.is(8, x.get(p, 101, 0, true), "act 5 as get");
        t.yes(x.set(o, 101, 3, 0, true), "act 4 as set");
        t.yes(x.set(p, 101, 3, 0, true), "act 5 as set");
        t.same(before, State.ofOne(x, o) + State.ofOne(x, p), "nothing changed");
        t.is(4, x.count(0), "nothing came to be");
    }

    /** A FUNCTION that gives a trap is no trap itself, though it stands under the trap's name. */
    private static void getterOfTrap(Check t) {
        ObjectRules x = new ObjectRules();
        int target = x.make(-1);
        int handler = x.make(-1);
        int reflects = x.function(4, 0, 0);
        x.define(handler, Kit.TRAP_PREVENT_EXTENSIONS, Kit.GET | Kit.CONFIGURABLE_TRUE, reflects, 0);
        int p = x.proxy(target, handler);
        t.yes(x.shut(p), "act 4 gives undefined there: no trap");
        t.called(x, "act 4 once", reflects);
        int other = x.make(-1);
        x.define(handler, Kit.TRAP_PREVENT_EXTENSIONS, Kit.GET, x.function(5, 0, 7), 0);
        t.typeError(() -> x.shut(x.proxy(other, handler)), "act 5 gives its VALUE there: no FUNCTION");
        t.yes(x.open(other), "and does nothing else");
    }

    private static void asTrap(Check t) {
        ObjectRules x = new ObjectRules();
        int target = x.make(-1);
        t.yes(x.shut(x.proxy(target, Kit.handler(x, Kit.TRAP_PREVENT_EXTENSIONS, 4, 0))), "act 4 does what Reflect does");
        t.no(x.open(target), "it did");
        int other = x.make(-1);
        t.no(x.shut(x.proxy(other, Kit.handler(x, Kit.TRAP_PREVENT_EXTENSIONS, 5, 0))), "act 5 does, and gives its VALUE");
        t.no(x.open(other), "it did");
        int third = x.make(-1);
        t.no(x.shut(x.proxy(third, Kit.handler(x, Kit.TRAP_PREVENT_EXTENSIONS, 0, 0))), "act 0 gives its VALUE alone");
        t.yes(x.open(third), "it did nothing");
        int thrower = x.proxy(Kit.revoked(x), Kit.handler(x, Kit.TRAP_IS_EXTENSIBLE, 5, 1));
        t.typeError(() -> x.open(thrower), "what Reflect throws, act 5 throws");
        int list = x.proxy(third, Kit.handler(x, Kit.TRAP_KEYS, 5, x.array(0)));
        int before = x.count(0);
        t.is(0, x.keys(list, false), "act 5 gives another list than Reflect");
        t.is(before + 1, x.count(0), "but Reflect made one too");
    }

    /** T of a trap is the handler, and its first argument the target. */
    private static void arguments(Check t) {
        ObjectRules x = new ObjectRules();
        int target = x.make(-1);
        for (int trap = Kit.TRAP_GET; trap <= Kit.TRAP_PREVENT_EXTENSIONS; trap++) {
            int handler = x.make(-1);
            x.set(handler, trap, x.function(2, 105, 0), 0, true);
            int p = x.proxy(target, handler);
            Check.Call[] methods = {
                () -> x.get(p, 101, 0, true), () -> x.set(p, 101, 1, 0, true), () -> x.has(p, 101, false),
                () -> x.remove(p, 101), () -> x.define(p, 101, 0, 0, 0), () -> x.about(p, 101, 0),
                () -> x.keys(p, false), () -> x.parent(p), () -> x.setParent(p, -1), () -> x.open(p), () -> x.shut(p)
            };
            t.taken(methods[trap - Kit.TRAP_GET], "trap " + trap);
            t.is(target, x.get(handler, 105, 0, true), "act 2 sets the target on the handler, trap " + trap);
        }
    }
}
