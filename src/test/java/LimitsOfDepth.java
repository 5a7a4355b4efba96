/** FULL: more than 40 FUNCTIONS and internal methods of PROXIES under way in one another. */
public final class LimitsOfDepth {
    public static void main(String[] args) {
        Check t = new Check();
        proxies(t, 40);
        proxies(t, 41);
        getters(t);
        setters(t);
        mixed(t);
        handlers(t);
        oneAfterTheOther(t);
        askedTwice(t);
        refusedInTraps(t);
        refusedBehindTraps(t);
        gettersOfTraps(t);
        fieldsThatAreRead(t);
        listsThatAreRead(t);
        revokedAtTheEnd(t);
        t.end();
    }

    private static void due(Check t, int n, Check.Call call, String what) {
        if (n > 40) {
            t.full(call, what + " through " + n);
        } else {
            t.is(1, Integer.parseInt(call.run().toString().replace("true", "1")), what + " through " + n);
        }
    }

    private static void proxies(Check t, int n) {
        ObjectRules x = new ObjectRules();
        int target = x.make(x.make(-1));
        x.set(target, 101, 1, 0, true);
        int p = Kit.chain(x, target, n);
        due(t, n, () -> x.get(p, 101, 0, true), "get");
        due(t, n, () -> x.set(p, 101, 1, target, false), "set");
        due(t, n, () -> x.has(p, 101, false), "has");
        due(t, n, () -> x.has(p, 101, true), "has own");
        due(t, n, () -> x.define(p, 102, 499, 1, 0), "define");
        due(t, n, () -> x.about(p, 101, 1), "about");
        due(t, n, () -> x.remove(p, 102), "remove");
        due(t, n, () -> x.keys(p, true), "keys");
        due(t, n, () -> x.parent(p) + 3, "parent");
        due(t, n, () -> x.setParent(p, -1), "setParent");
        due(t, n, () -> x.open(p), "open");
        due(t, n, () -> x.assign(x.make(-1), p), "assign");
        due(t, n, () -> x.shut(p), "shut");
        due(t, n, () -> x.level(p, false, true), "level");
        due(t, n, () -> x.level(p, true, true), "level asked");
        t.is(0, x.count(1), "no FUNCTION was called");
        if (n > 40) {
            t.yes(x.open(target), "nothing came to the target");
            t.illegal(() -> x.get(p, 250, 0, true), "no KEY is told before FULL");
        }
    }

    /** n getters in one another, each of a KEY of its own. */
    private static int getterChain(ObjectRules x, int n) {
        int o = x.make(-1);
        for (int i = 0; i < n; i++) {
            x.define(o, 101 + i, Kit.GET, x.function(1, 102 + i, 0), 0);
        }
        x.set(o, 101 + n, 77, 0, true);
        return o;
    }

    private static void getters(Check t) {
        ObjectRules x = new ObjectRules();
        int o = getterChain(x, 41);
        t.is(77, x.get(o, 102, 0, true), "40 getters");
        t.is(40, x.count(1), "were called");
        t.full(() -> x.get(o, 101, 0, true), "41 getters");
        t.is(77, x.get(o, 102, 0, true), "40 getters after FULL");
    }

    private static void setters(Check t) {
        ObjectRules x = new ObjectRules();
        int o = x.make(-1);
        for (int i = 0; i < 41; i++) {
            x.define(o, 101 + i, Kit.SET, 0, x.function(2, 102 + i, 0));
        }
        t.yes(x.set(o, 102, 8, 0, true), "40 setters");
        t.is(8, x.get(o, 142, 0, true), "set what is behind them");
        t.full(() -> x.set(o, 101, 9, 0, true), "41 setters");
        t.is(8, x.get(o, 142, 0, true), "do not come so far");
    }

    /** A PROXY with a trap is two: its internal method and the FUNCTION. */
    private static void mixed(Check t) {
        ObjectRules x = new ObjectRules();
        int target = x.make(-1);
        x.set(target, 101, 5, 0, true);
        int handler = Kit.handler(x, Kit.TRAP_GET, 4, 0);
        int p = target;
        for (int i = 0; i < 20; i++) {
            p = x.proxy(p, handler);
        }
        int twenty = p;
        t.is(5, x.get(twenty, 101, 0, true), "20 PROXIES and 20 FUNCTIONS");
        t.is(20, x.count(1), "20 FUNCTIONS");
        int one = x.proxy(twenty, x.make(-1));
        t.full(() -> x.get(one, 101, 0, true), "21 PROXIES and 20 FUNCTIONS");
        t.is(19, x.count(1), "the last of them was not called");
        x.define(target, 102, Kit.GET, x.function(0, 0, 6), 0);
        t.full(() -> x.get(twenty, 102, 0, true), "20 PROXIES and 21 FUNCTIONS");
        t.is(20, x.count(1), "the last of them was not called");
    }

    /** A handler that is a PROXY is asked for the trap while the first one is under way. */
    private static void handlers(Check t) {
        ObjectRules x = new ObjectRules();
        int target = x.make(-1);
        x.set(target, 101, 5, 0, true);
        int handler = x.make(-1);
        for (int i = 0; i < 40; i++) {
            handler = x.proxy(x.make(-1), handler);
        }
        int last = handler;
        t.is(-1, x.get(last, 101, 0, true), "40 handlers");
        int p = x.proxy(target, last);
        t.full(() -> x.get(p, 101, 0, true), "41 handlers");
        int h = x.make(-1);
        int q = x.proxy(target, h);
        x.setParent(h, q);
        t.full(() -> x.get(q, 101, 0, true), "a handler below its own PROXY");
        t.is(0, x.count(1), "calls nothing");
    }

    private static void oneAfterTheOther(Check t) {
        ObjectRules x = new ObjectRules();
        int target = x.make(-1);
        for (int key = 0; key < 50; key++) {
            x.set(target, key, 1, 0, true);
        }
        int p = x.proxy(target, Kit.reflectingHandler(x));
        int to = x.make(-1);
        t.is(50, x.assign(to, p), "many, but not in one another");
        t.is(101, x.count(1), "FUNCTIONS were called");
    }

    /** A PROXY and its trap are 2, and 38 stand behind them; when the trap has answered, the 38 are asked again. */
    private static void askedTwice(Check t) {
        ObjectRules x = new ObjectRules();
        int top = x.make(-1);
        int target = x.make(top);
        x.set(target, 101, 5, 0, true);
        int p = x.proxy(Kit.chain(x, target, 38), Kit.reflectingHandler(x));
        t.is(5, x.get(p, 101, 0, true), "get twice");
        t.yes(x.set(p, 101, 6, target, false), "set twice");
        t.yes(x.has(p, 101, false), "has");
        t.no(x.has(p, 102, false), "has twice");
        t.yes(x.define(p, 103, 499, 1, 0), "define twice");
        t.is(1, x.about(p, 103, 1), "about twice");
        t.yes(x.remove(p, 103), "remove twice");
        t.is(1, x.keys(p, true), "keys twice");
        t.is(top, x.parent(p), "parent twice");
        t.yes(x.setParent(p, top), "setParent twice");
        t.yes(x.open(p), "open twice");
        t.yes(x.shut(p), "shut twice");
        t.is(top, x.parent(p), "parent three times");
        t.yes(x.setParent(p, top), "setParent three times");
        t.no(x.has(p, 102, false), "has of one that is not extensible");
        t.yes(x.level(p, false, true), "level");
    }

    /** A PROXY and its trap are 2, and 39 stand behind them: Reflect's function comes to the 41st. */
    private static void refusedInTraps(Check t) {
        ObjectRules x = new ObjectRules();
        int target = x.make(x.make(-1));
        x.set(target, 101, 5, 0, true);
        int p = x.proxy(Kit.chain(x, target, 39), Kit.reflectingHandler(x));
        String before = State.ofOne(x, target);
        Check.Call[] calls = {
            () -> x.get(p, 101, 0, true), () -> x.set(p, 101, 6, 0, true), () -> x.set(p, 101, 6, target, false),
            () -> x.has(p, 101, false), () -> x.has(p, 101, true), () -> x.remove(p, 101),
            () -> x.define(p, 101, Kit.VALUE, 6, 0), () -> x.about(p, 101, 0), () -> x.keys(p, true), () -> x.parent(p),
            () -> x.setParent(p, -1), () -> x.open(p), () -> x.shut(p), () -> x.level(p, true, true),
            () -> x.level(p, false, true), () -> x.assign(target, p), () -> x.assign(p, target)
        };
        for (int i = 0; i < calls.length; i++) {
            t.full(calls[i], "call " + i + " with 41");
            t.is(1, x.count(1), "call " + i + ", the trap was called");
        }
        t.same(before, State.ofOne(x, target), "nothing came to the target");
        t.is(5, x.get(Kit.chain(x, target, 40), 101, 0, true), "40 after FULL");
    }

    /** The trap answers by itself; what its answer is held to stands 40 deep behind the PROXY. */
    private static void refusedBehindTraps(Check t) {
        ObjectRules x = new ObjectRules();
        int target = x.make(-1);
        int deep = Kit.chain(x, target, 39);
        int deeper = x.proxy(deep, x.make(-1));
        t.is(5, x.get(Kit.proxyGiving(x, deep, Kit.TRAP_GET, 5), 101, 0, true), "get with 40");
        t.full(() -> x.get(Kit.proxyGiving(x, deeper, Kit.TRAP_GET, 5), 101, 0, true), "get with 41");
        t.yes(x.set(Kit.proxyGiving(x, deep, Kit.TRAP_SET, 1), 101, 1, 0, true), "set with 40");
        t.full(() -> x.set(Kit.proxyGiving(x, deeper, Kit.TRAP_SET, 1), 101, 1, 0, true), "set with 41");
        t.no(x.set(Kit.proxyGiving(x, deeper, Kit.TRAP_SET, 0), 101, 1, 0, true), "set that refuses is held to nothing");
        t.no(x.has(Kit.proxyGiving(x, deep, Kit.TRAP_HAS, 0), 101, false), "has with 40");
        t.full(() -> x.has(Kit.proxyGiving(x, deeper, Kit.TRAP_HAS, 0), 101, false), "has with 41");
        t.yes(x.has(Kit.proxyGiving(x, deeper, Kit.TRAP_HAS, 1), 101, false), "has that is true is held to nothing");
        t.yes(x.remove(Kit.proxyGiving(x, deep, Kit.TRAP_DELETE, 1), 101), "remove with 40");
        t.full(() -> x.remove(Kit.proxyGiving(x, deeper, Kit.TRAP_DELETE, 1), 101), "remove with 41");
        t.yes(x.define(Kit.proxyGiving(x, deep, Kit.TRAP_DEFINE, 1), 101, 0, 0, 0), "define with 40");
        t.full(() -> x.define(Kit.proxyGiving(x, deeper, Kit.TRAP_DEFINE, 1), 101, 0, 0, 0), "define with 41");
        t.is(-1, x.about(Kit.proxyGiving(x, deep, Kit.TRAP_OWN, -1), 101, 0), "about with 40");
        t.full(() -> x.about(Kit.proxyGiving(x, deeper, Kit.TRAP_OWN, -1), 101, 0), "about with 41");
        int none = x.array(0);
        t.is(0, x.keys(Kit.proxyGiving(x, deep, Kit.TRAP_KEYS, none), true), "keys with 40");
        t.full(() -> x.keys(Kit.proxyGiving(x, deeper, Kit.TRAP_KEYS, none), true), "keys with 41");
        t.is(none, x.parent(Kit.proxyGiving(x, deep, Kit.TRAP_GET_PROTOTYPE, none)), "parent with 40");
        t.full(() -> x.parent(Kit.proxyGiving(x, deeper, Kit.TRAP_GET_PROTOTYPE, none)), "parent with 41");
        t.yes(x.setParent(Kit.proxyGiving(x, deep, Kit.TRAP_SET_PROTOTYPE, 1), none), "setParent with 40");
        t.full(() -> x.setParent(Kit.proxyGiving(x, deeper, Kit.TRAP_SET_PROTOTYPE, 1), none), "setParent with 41");
        t.yes(x.open(Kit.proxyGiving(x, deep, Kit.TRAP_IS_EXTENSIBLE, 1)), "open with 40");
        t.full(() -> x.open(Kit.proxyGiving(x, deeper, Kit.TRAP_IS_EXTENSIBLE, 1)), "open with 41");
        x.shut(target);
        t.yes(x.shut(Kit.proxyGiving(x, deep, Kit.TRAP_PREVENT_EXTENSIONS, 1)), "shut with 40");
        t.full(() -> x.shut(Kit.proxyGiving(x, deeper, Kit.TRAP_PREVENT_EXTENSIONS, 1)), "shut with 41");
    }

    /** A getter that gives the trap has answered before the trap is called: they are not in one another. */
    private static void gettersOfTraps(Check t) {
        ObjectRules x = new ObjectRules();
        int handler = x.make(-1);
        int trap = x.function(0, 0, 5);
        int getter = x.function(0, 0, trap);
        x.define(handler, Kit.TRAP_GET, Kit.GET, getter, 0);
        int p = x.proxy(x.make(-1), handler);
        t.is(5, x.get(Kit.chain(x, p, 38), 101, 0, true), "39 PROXIES, the getter, then the trap");
        t.called(x, "39 PROXIES", getter, trap);
        t.full(() -> x.get(Kit.chain(x, p, 39), 101, 0, true), "40 PROXIES and the getter");
        t.is(0, x.count(1), "which was not called");
    }

    /** ToPropertyDescriptor reads its fields while the PROXY's method is under way, but behind the trap. */
    private static void fieldsThatAreRead(Check t) {
        ObjectRules x = new ObjectRules();
        int told = x.make(-1);
        int reads = x.function(1, 101, 0);
        x.define(told, 110, Kit.GET, reads, 0);
        x.set(told, 115, 1, 0, true);
        x.set(told, 101, 5, 0, true);
        int handler = Kit.handler(x, Kit.TRAP_OWN, 0, told);
        int p = x.proxy(x.make(-1), handler);
        t.is(5, x.about(Kit.chain(x, p, 38), 101, 1), "39 PROXIES and a FUNCTION");
        t.called(x, "39 PROXIES", Kit.functionOf(handler), reads);
        t.full(() -> x.about(Kit.chain(x, p, 39), 101, 1), "40 PROXIES and a FUNCTION");
        x.define(told, 111, Kit.GET, x.function(1, 110, 0), 0);
        t.is(5, x.about(Kit.chain(x, p, 37), 101, 1), "38 PROXIES and two FUNCTIONS in one another");
        t.full(() -> x.about(Kit.chain(x, p, 38), 101, 1), "39 PROXIES and two FUNCTIONS in one another");
    }

    private static void listsThatAreRead(Check t) {
        ObjectRules x = new ObjectRules();
        int list = x.make(-1);
        x.set(list, 100, 1, 0, true);
        x.define(list, 0, Kit.GET, x.function(0, 0, 1101), 0);
        int p = Kit.proxyGiving(x, x.make(-1), Kit.TRAP_KEYS, list);
        t.is(1, x.keys(Kit.chain(x, p, 38), true), "39 PROXIES and a FUNCTION");
        t.full(() -> x.keys(Kit.chain(x, p, 39), true), "40 PROXIES and a FUNCTION");
        int through = Kit.proxyGiving(x, x.make(-1), Kit.TRAP_KEYS, Kit.chain(x, Kit.list(x, 102), 39));
        t.is(1, x.keys(through, true), "a PROXY and a list behind 39");
        t.is(102, x.key(0), "its KEY");
        int further = Kit.proxyGiving(x, x.make(-1), Kit.TRAP_KEYS, Kit.chain(x, Kit.list(x, 102), 40));
        t.full(() -> x.keys(further, true), "a PROXY and a list behind 40");
        t.is(102, x.key(0), "THE KEYS stay");
    }

    private static void revokedAtTheEnd(Check t) {
        ObjectRules x = new ObjectRules();
        int revoked = Kit.revoked(x);
        t.typeError(() -> x.get(Kit.chain(x, revoked, 39), 101, 0, true), "the 40th is revoked");
        t.full(() -> x.get(Kit.chain(x, revoked, 40), 101, 0, true), "the 41st is");
    }
}
