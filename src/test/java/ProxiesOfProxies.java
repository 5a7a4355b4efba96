/**
 * PROXIES whose handlers are PROXIES too: each of them is asked for its own "get" first. LANGUAGE.md, rule 7: no call
 * fails to end, also where 40 such PROXIES could ask each other 2 to the 40th times.
 */
public final class ProxiesOfProxies {
    private static final int FORMS = 4;

    public static void main(String[] args) {
        Check t = new Check();
        for (int form = 0; form < FORMS; form++) {
            ends(t, form);
            endsAtTheLimit(t, form);
            endsWithFunctions(t, form);
        }
        deeperTheSecondTime(t);
        deeperInTheHandler(t);
        deepBeforeTheRest(t);
        deepFirstInTheHandler(t);
        deepOnceInTheHandler(t);
        changedBetweenCalls(t);
        changedByAssign(t);
        changedByDefine(t);
        changedByRemove(t);
        changedBySetParent(t);
        calledEachTime(t);
        t.end();
    }

    /** The next PROXY, both whose target and whose handler come to the one before it. */
    private static int next(ObjectRules x, int p, int form) {
        int target = form == 1 || form == 3 ? x.make(p) : p;
        int handler = form == 2 || form == 3 ? x.make(p) : p;
        return x.proxy(target, handler);
    }

    private static int tower(ObjectRules x, int base, int n, int form) {
        int p = base;
        for (int i = 0; i < n; i++) {
            p = next(x, p, form);
        }
        return p;
    }

    private static void ends(Check t, int form) {
        ObjectRules x = new ObjectRules();
        int top = x.make(-1);
        int base = x.make(top);
        x.set(base, 101, 5, 0, true);
        int p = tower(x, base, 40, form);
        boolean straight = form == 0 || form == 2;
        String what = ", form " + form;
        t.is(5, x.get(p, 101, 0, true), "get" + what);
        t.is(-1, x.get(p, 102, 0, true), "get of nothing" + what);
        t.yes(x.has(p, 101, false), "has" + what);
        t.is(straight ? 1 : 0, x.has(p, 101, true) ? 1 : 0, "has own" + what);
        t.yes(x.set(p, 102, 6, top, false), "set on another" + what);
        t.is(6, x.get(top, 102, 0, true), "it was set" + what);
        t.yes(x.define(p, 103, 499, 7, 0), "define" + what);
        t.is(7, x.about(p, 103, 1), "about" + what);
        t.is(straight ? 2 : 1, x.keys(p, true), "keys" + what);
        t.yes(x.remove(p, 103), "remove" + what);
        t.yes(x.setParent(p, x.parent(p)), "parent and setParent" + what);
        t.is(straight ? 1 : 0, x.assign(x.make(-1), p), "assign" + what);
        t.yes(x.open(p), "open" + what);
        t.yes(x.shut(p), "shut" + what);
        t.yes(x.level(p, false, true), "level set" + what);
        t.yes(x.level(p, true, true), "level asked" + what);
        t.is(0, x.count(1), "no FUNCTION was called" + what);
    }

    private static void endsAtTheLimit(Check t, int form) {
        ObjectRules x = new ObjectRules();
        int base = x.make(-1);
        x.set(base, 101, 5, 0, true);
        int forty = tower(x, base, 40, form);
        int more = next(x, forty, form);
        t.full(() -> x.get(more, 101, 0, true), "get through 41, form " + form);
        t.full(() -> x.has(more, 101, false), "has through 41, form " + form);
        t.full(() -> x.open(more), "open through 41, form " + form);
        t.is(5, x.get(forty, 101, 0, true), "get through 40 after it, form " + form);
        // [[Set]] asks its receiver while all 40 are under way.
        t.full(() -> x.set(forty, 101, 5, 0, true), "set through 40, form " + form);
    }

    /** Each time that the lowest handler is asked, a FUNCTION is called: 2,000 of them end the call. */
    private static void endsWithFunctions(Check t, int form) {
        ObjectRules x = new ObjectRules();
        int base = x.make(-1);
        int none = x.function(0, 0, -1);
        x.define(base, Kit.TRAP_GET, Kit.GET, none, 0);
        int ten = tower(x, base, 10, form);
        t.is(-1, x.get(ten, 102, 0, true), "10 of them, form " + form);
        t.is(1023, x.count(1), "ask 1,023 times, form " + form);
        int more = next(x, ten, form);
        t.full(() -> x.get(more, 102, 0, true), "11 of them, form " + form);
        t.is(2000, x.count(1), "ask too often, form " + form);
        int high = tower(x, more, 28, form);
        t.full(() -> x.get(high, 102, 0, true), "39 of them, form " + form);
        t.is(2000, x.count(1), "ask too often too, form " + form);
    }

    /** The PROXY p, 20 deep in its handlers, is asked for "get" at depth 2 first, then below n more. */
    private static void deeperTheSecondTime(Check t) {
        for (int n = 17; n <= 20; n++) {
            ObjectRules x = new ObjectRules();
            int handler = x.make(-1);
            for (int i = 0; i < 20; i++) {
                handler = x.proxy(x.make(-1), handler);
            }
            int p = x.proxy(x.make(-1), handler);
            due(t, x, x.proxy(Kit.chain(x, p, n), p), 1 + n + 1 + 20);
        }
    }

    /** p's handler has another one as its handler and above its target, and that one is 10 deep. */
    private static void deeperInTheHandler(Check t) {
        for (int n = 25; n <= 28; n++) {
            ObjectRules x = new ObjectRules();
            int deep = Kit.chain(x, x.make(-1), 10);
            int handler = x.proxy(deep, deep);
            int p = x.proxy(x.make(-1), x.proxy(x.make(handler), handler));
            due(t, x, x.proxy(Kit.chain(x, p, n), p), 1 + n + 1 + 1 + 1 + 10);
        }
    }

    /** What was under way before p was asked for the first time does not count for p. */
    private static void deepBeforeTheRest(Check t) {
        ObjectRules x = new ObjectRules();
        int p = x.proxy(x.make(-1), x.make(-1));
        int both = x.proxy(Kit.chain(x, p, 10), p);
        int all = x.proxy(both, Kit.chain(x, x.make(-1), 35));
        t.is(-1, x.get(all, 101, 0, true), "1 + 35, then 1 + 1 + 10 + 1");
    }

    /** p's handler has a handler that is 20 deep, and then a target that is 1 deep. */
    private static void deepFirstInTheHandler(Check t) {
        for (int n = 15; n <= 18; n++) {
            ObjectRules x = new ObjectRules();
            int handler = x.proxy(Kit.chain(x, x.make(-1), 1), Kit.chain(x, x.make(-1), 20));
            int p = x.proxy(x.make(-1), handler);
            due(t, x, x.proxy(Kit.chain(x, p, n), p), 1 + n + 1 + 1 + 20);
        }
    }

    /** The PROXY that is 20 deep stands twice below p's handler, the second time below two more: it is not asked again. */
    private static void deepOnceInTheHandler(Check t) {
        for (int n = 12; n <= 16; n++) {
            ObjectRules x = new ObjectRules();
            int deep = x.proxy(x.make(-1), Kit.chain(x, x.make(-1), 20));
            int handler = x.proxy(Kit.chain(x, deep, 2), deep);
            int p = x.proxy(x.make(-1), handler);
            due(t, x, x.proxy(Kit.chain(x, p, n), p), 1 + n + 1 + 1 + 2 + 1 + 20);
        }
    }

    private static void due(Check t, ObjectRules x, int o, int under) {
        if (under <= 40) {
            t.is(-1, x.get(o, 101, 0, true), under + " under way");
        } else {
            t.full(() -> x.get(o, 101, 0, true), under + " under way");
        }
    }

    /** p's handler is a PROXY, whose handler is p's target: what changes p changes what p's traps are asked through. */
    private static int looped(ObjectRules x, int target) {
        return x.proxy(target, x.proxy(x.make(-1), target));
    }

    private static void changedBetweenCalls(Check t) {
        ObjectRules x = new ObjectRules();
        int none = x.function(0, 0, -1);
        int h = x.make(-1);
        int p = looped(x, h);
        t.is(-1, x.get(p, 101, 0, true), "no trap");
        t.called(x, "no trap");
        x.set(h, Kit.TRAP_GET, none, 0, true);
        t.is(-1, x.get(p, 101, 0, true), "a trap");
        t.called(x, "a trap", none);
        x.remove(h, Kit.TRAP_GET);
        t.is(-1, x.get(p, 101, 0, true), "none again");
        t.called(x, "none again");
        int handler = x.proxy(x.make(-1), h);
        int q = x.proxy(h, handler);
        t.is(-1, x.get(q, 101, 0, true), "a handler without traps");
        x.revoke(handler);
        t.typeError(() -> x.get(q, 101, 0, true), "a handler that is revoked");
    }

    private static void changedByAssign(Check t) {
        ObjectRules x = new ObjectRules();
        int none = x.function(0, 0, -1);
        int from = x.make(-1);
        x.set(from, Kit.TRAP_GET, none, 0, true);
        x.set(from, 101, 5, 0, true);
        int h = x.make(-1);
        int p = looped(x, h);
        t.is(2, x.assign(p, from), "the second is set through the first");
        // set, getOwnPropertyDescriptor and defineProperty are asked for through "get".
        t.called(x, "assign", none, none, none);
        t.is(5, x.get(h, 101, 0, true), "the second was set");
    }

    private static void changedByDefine(Check t) {
        ObjectRules x = new ObjectRules();
        int none = x.function(0, 0, -1);
        int h = x.make(-1);
        int handler = Kit.handler(x, Kit.TRAP_DEFINE, 4, 0);
        int p = x.proxy(looped(x, h), handler);
        t.yes(x.define(p, Kit.TRAP_GET, 499, none, 0), "what is defined");
        // The target is asked for its property and whether it is extensible.
        t.called(x, "define", Kit.functionOf(handler), none, none);
    }

    private static void changedByRemove(Check t) {
        ObjectRules x = new ObjectRules();
        int none = x.function(0, 0, -1);
        int above = x.make(-1);
        x.set(above, Kit.TRAP_GET, none, 0, true);
        int h = x.make(above);
        x.set(h, Kit.TRAP_GET, -1, 0, true);
        int handler = Kit.handler(x, Kit.TRAP_DELETE, 4, 0);
        int p = x.proxy(looped(x, h), handler);
        t.yes(x.remove(p, Kit.TRAP_GET), "what is removed");
        t.called(x, "remove shows the prototype's", Kit.functionOf(handler), none);
    }

    private static void changedBySetParent(Check t) {
        ObjectRules x = new ObjectRules();
        int none = x.function(0, 0, -1);
        int above = x.make(-1);
        x.set(above, Kit.TRAP_GET, none, 0, true);
        int h = x.make(-1);
        int handler = Kit.handler(x, Kit.TRAP_SET_PROTOTYPE, 4, 0);
        int p = x.proxy(looped(x, h), handler);
        t.yes(x.setParent(p, above), "a prototype that is set");
        t.called(x, "setParent shows the prototype's", Kit.functionOf(handler), none);
    }

    /** Whether the getter of the lowest handler's trap is called, is not kept. */
    private static void calledEachTime(Check t) {
        ObjectRules x = new ObjectRules();
        int none = x.function(0, 0, -1);
        int h = x.make(-1);
        x.define(h, Kit.TRAP_GET, Kit.GET, none, 0);
        int a = x.proxy(x.make(-1), h);
        int b = x.proxy(a, a);
        t.is(-1, x.get(b, 101, 0, true), "asked as the handler and as the target");
        t.called(x, "twice", none, none);
        int c = x.proxy(b, b);
        t.is(-1, x.get(c, 101, 0, true), "asked by two of them");
        t.called(x, "four times", none, none, none, none);
    }
}
