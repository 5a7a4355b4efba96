/** "What was done till then stays", whatever is thrown. */
public final class EdgesOfStaying {
    public static void main(String[] args) {
        Check t = new Check();
        typeErrorInAssign(t);
        rangeErrorInAssign(t);
        throwInAssign(t);
        fullInAssign(t);
        level(t);
        fullInLevel(t);
        lengths(t);
        traps(t);
        functions(t);
        refusedDoesNothing(t);
        t.end();
    }

    private static int from(ObjectRules x) {
        int from = x.make(-1);
        for (int key = 101; key <= 104; key++) {
            x.set(from, key, key - 100, 0, true);
        }
        return from;
    }

    private static void typeErrorInAssign(Check t) {
        ObjectRules x = new ObjectRules();
        int from = from(x);
        int to = x.make(-1);
        x.define(to, 103, Kit.VALUE, 9, 0);
        t.typeError(() -> x.assign(to, from), "the third is not writable");
        t.same(" parent -1 open 103=0/9/-1 101=7/1/-1 102=7/2/-1", State.ofOne(x, to), "two of four stay");
        int first = x.make(-1);
        x.define(first, 101, Kit.GET, -1, 0);
        t.typeError(() -> x.assign(first, from), "the first has no set");
        t.same(" parent -1 open 101=8/-1/-1", State.ofOne(x, first), "none of four");
        int last = x.make(-1);
        x.define(last, 104, Kit.VALUE, 9, 0);
        t.typeError(() -> x.assign(last, from), "the last is not writable");
        t.is(4, x.keys(last, false), "three of four stay");
    }

    private static void rangeErrorInAssign(Check t) {
        ObjectRules x = new ObjectRules();
        int from = x.make(-1);
        x.set(from, 101, 1, 0, true);
        x.set(from, 100, 1101, 0, true);
        x.set(from, 102, 2, 0, true);
        x.set(from, 5, 3, 0, true);
        int a = x.array(2);
        t.rangeError(() -> x.assign(a, from), "the third is no length");
        t.same(" parent -1 open 5=7/3/-1 100=1/6/-1 101=7/1/-1", State.ofOne(x, a), "two of four stay");
    }

    private static void throwInAssign(Check t) {
        ObjectRules x = new ObjectRules();
        int from = from(x);
        int thrower = x.function(3, 0, 66);
        x.define(from, 102, Kit.GET, thrower, 0);
        int to = x.make(-1);
        t.thrown(() -> x.assign(to, from), "the second throws as it is read");
        t.called(x, "it was called", thrower);
        t.same(" parent -1 open 101=7/1/-1", State.ofOne(x, to), "the first stays");
        t.is(66, x.count(3), "so does what was thrown");
    }

    private static void fullInAssign(Check t) {
        ObjectRules x = new ObjectRules();
        int from = from(x);
        x.define(from, 103, Kit.GET, x.function(1, 103, 0), 0);
        int to = x.make(-1);
        t.full(() -> x.assign(to, from), "the third calls itself without an end");
        t.is(40, x.count(1), "40 were called");
        t.same(" parent -1 open 101=7/1/-1 102=7/2/-1", State.ofOne(x, to), "two of four stay");
    }

    /** SetIntegrityLevel has shut the target when the next step throws. */
    private static void level(Check t) {
        String shut = " parent -1 shut 101=7/1/-1 102=7/2/-1 103=7/3/-1 104=7/4/-1";
        ObjectRules x = new ObjectRules();
        int refused = from(x);
        t.typeError(() -> x.level(Kit.proxyGiving(x, refused, Kit.TRAP_DEFINE, 0), false, false), "define is refused");
        t.same(shut, State.ofOne(x, refused), "but it is shut");
        int unlisted = from(x);
        t.thrown(() -> x.level(Kit.proxyThrowing(x, unlisted, Kit.TRAP_KEYS, 8), false, true), "the list throws");
        t.same(shut, State.ofOne(x, unlisted), "but it is shut");
        int untold = from(x);
        t.thrown(() -> x.level(Kit.proxyThrowing(x, untold, Kit.TRAP_OWN, 8), false, true), "the first property throws");
        t.same(shut, State.ofOne(x, untold), "but it is shut");
        int open = from(x);
        t.thrown(() -> x.level(Kit.proxyThrowing(x, open, Kit.TRAP_PREVENT_EXTENSIONS, 8), false, true), "shut throws");
        t.typeError(() -> x.level(Kit.proxyGiving(x, open, Kit.TRAP_PREVENT_EXTENSIONS, 1), false, true), "shut lies");
        t.no(x.level(Kit.proxyGiving(x, open, Kit.TRAP_PREVENT_EXTENSIONS, 0), false, true), "shut refuses");
        t.same(shut.replace("shut", "open"), State.ofOne(x, open), "nothing was done");
    }

    /** Room for two of the four descriptors that are made while a PROXY is frozen. */
    private static void fullInLevel(Check t) {
        ObjectRules x = Fill.objects(594);
        int target = from(x);
        int p = Kit.proxyReflecting(x, target, Kit.TRAP_OWN);
        t.is(598, x.count(0), "598 OBJECTS");
        t.full(() -> x.level(p, false, true), "FULL at the third");
        t.same(" parent -1 shut 101=2/1/-1 102=2/2/-1 103=7/3/-1 104=7/4/-1", State.ofOne(x, target), "two are frozen");
        t.full(() -> x.level(p, true, true), "asked: FULL at the first");
        t.no(x.level(target, true, true), "the target is not frozen");
        t.yes(x.level(target, false, true), "but can be without the PROXY");
    }

    /** An answer that is false is no exception, but what was deleted before it stays deleted too. */
    private static void lengths(Check t) {
        ObjectRules x = new ObjectRules();
        int a = x.array(0);
        for (int i = 0; i < 6; i++) {
            x.set(a, i, i, 0, true);
        }
        x.define(a, 2, Kit.CONFIGURABLE, 0, 0);
        t.no(x.set(a, 100, 0, 0, true), "element 2 stays");
        t.same(" parent -1 open 0=7/0/-1 1=7/1/-1 2=3/2/-1 100=1/3/-1", State.ofOne(x, a), "those behind it are gone");
        t.no(x.define(a, 100, Kit.VALUE | Kit.WRITABLE, 1, 0), "and it is fixed");
        t.same(" parent -1 open 0=7/0/-1 1=7/1/-1 2=3/2/-1 100=0/3/-1", State.ofOne(x, a), "though not done");
    }

    private static void traps(Check t) {
        ObjectRules x = new ObjectRules();
        int target = x.make(-1);
        int p = Kit.proxyThrowing(x, target, Kit.TRAP_DEFINE, 5);
        int made = -2 - x.count(0);
        t.thrown(() -> x.define(p, 101, Kit.VALUE, 9, 0), "a trap that throws");
        t.same(" parent -1 open 110=7/9/-1", State.ofOne(x, made), "the descriptor that it was given stays");
        x.set(target, 101, 5, 0, true);
        int q = x.proxy(target, Kit.handler(x, Kit.TRAP_KEYS, 5, 7));
        int list = -2 - x.count(0);
        t.typeError(() -> x.keys(q, true), "act 5 gives what is no list");
        t.same(" parent -1 open 0=7/1101/-1 100=1/1/-1", State.ofOne(x, list), "the list that Reflect made stays");
        int r = x.proxy(target, Kit.handler(x, Kit.TRAP_DELETE, 5, 0));
        t.no(x.remove(r, 101), "act 5 tells that it was not removed");
        t.no(x.has(target, 101, true), "but it was");
        int s = x.proxy(target, Kit.handler(x, Kit.TRAP_IS_EXTENSIBLE, 5, 0));
        t.typeError(() -> x.open(s), "act 5 tells another thing");
        t.yes(x.open(target), "the target stays");
    }

    private static void functions(Check t) {
        ObjectRules x = new ObjectRules();
        int o = x.make(-1);
        x.define(o, 101, Kit.SET, 0, x.function(2, 102, 0));
        x.define(o, 102, Kit.SET, 0, x.function(2, 103, 0));
        x.set(o, 103, 1, 0, true);
        t.yes(x.set(o, 101, 7, 0, true), "two setters in one another");
        t.is(7, x.get(o, 103, 0, true), "the value came through");
        int handler = x.make(-1);
        int writes = x.function(2, 150, 0);
        x.set(handler, Kit.TRAP_HAS, writes, 0, true);
        x.define(o, 104, 0, 0, 0);
        int p = x.proxy(o, handler);
        t.typeError(() -> x.has(p, 104, false), "undefined tells a fixed property away");
        t.is(o, x.get(handler, 150, 0, true), "what the trap set on the handler stays");
    }

    /** IllegalArgumentException comes before all else: till then nothing was done. */
    private static void refusedDoesNothing(Check t) {
        ObjectRules x = World.make();
        t.illegal(() -> x.set(World.PLAIN, 103, 1250, 0, true), "set");
        t.illegal(() -> x.define(World.PLAIN, 101, Kit.VALUE, 1250, 0), "define");
        t.illegal(() -> x.keys(World.FIRST_THAT_IS_NONE, true), "keys");
        t.illegal(() -> x.assign(World.EMPTY, World.FIRST_THAT_IS_NONE), "assign");
        t.illegal(() -> x.setParent(World.EMPTY, 0), "setParent");
        t.illegal(() -> x.revoke(World.PLAIN), "revoke");
        t.same(World.state(World.make()), World.state(x), "all stays");
    }
}
