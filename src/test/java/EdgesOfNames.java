/** "The names of descriptors are 110 value .. 115 configurable; those of traps 120 get .. 130 preventExtensions." */
public final class EdgesOfNames {
    public static void main(String[] args) {
        Check t = new Check();
        given(t);
        read(t);
        noOthersAreRead(t);
        traps(t);
        noOtherTraps(t);
        t.end();
    }

    /** FromPropertyDescriptor gives each field the name of its own, and only fields that are there. */
    private static void given(Check t) {
        ObjectRules x = new ObjectRules();
        int target = x.make(-1);
        int f = x.function(0, 0, 1);
        int g = x.function(0, 0, 2);
        int p = Kit.proxyGiving(x, target, Kit.TRAP_DEFINE, 0);
        int[] bits = {Kit.VALUE, Kit.WRITABLE_TRUE, Kit.GET, Kit.SET, Kit.ENUMERABLE_TRUE, Kit.CONFIGURABLE_TRUE};
        int[] due = {f, 1, f, g, 1, 1};
        for (int i = 0; i < 6; i++) {
            int made = -2 - x.count(0);
            t.no(x.define(p, 101, bits[i], f, g), "the trap refuses field " + i);
            t.keys(x, made, "field " + i + " has the name", 110 + i);
            t.data(x, made, 110 + i, 7, due[i], "field " + i);
        }
        int made = -2 - x.count(0);
        x.define(p, 101, 0, f, g);
        t.keys(x, made, "no fields, no names");
    }

    private static int told(ObjectRules x, int name, int v) {
        int o = x.make(-1);
        x.set(o, name, v, 0, true);
        if (name != 115) {
            x.set(o, 115, 1, 0, true);
        }
        return Kit.proxyGiving(x, x.make(-1), Kit.TRAP_OWN, o);
    }

    private static void read(Check t) {
        ObjectRules x = new ObjectRules();
        int f = x.function(0, 0, 1);
        t.is(f, x.about(told(x, 110, f), 101, 1), "110 is the value");
        t.is(4 + 1, x.about(told(x, 111, 1), 101, 0), "111 is writable");
        t.is(4 + 8, x.about(told(x, 112, f), 101, 0), "112 is of an accessor");
        t.is(f, x.about(told(x, 112, f), 101, 1), "112 is get");
        t.is(4 + 8, x.about(told(x, 113, f), 101, 0), "113 is of an accessor");
        t.is(f, x.about(told(x, 113, f), 101, 2), "113 is set");
        t.is(4 + 2, x.about(told(x, 114, 1), 101, 0), "114 is enumerable");
        t.is(4, x.about(told(x, 115, 1), 101, 0), "115 is configurable");
    }

    private static void noOthersAreRead(Check t) {
        ObjectRules x = new ObjectRules();
        int f = x.function(3, 0, 1);
        int o = x.make(-1);
        for (int key = 100; key < 250; key++) {
            if (key < 110 || key > 115) {
                x.define(o, key, Kit.GET, f, 0);
            }
        }
        x.set(o, 115, 1, 0, true);
        int p = Kit.proxyGiving(x, x.make(-1), Kit.TRAP_OWN, o);
        t.data(x, p, 101, 4, -1, "no other property is read");
    }

    private static Check.Call[] methods(ObjectRules x, int p) {
        return new Check.Call[] {
            () -> x.get(p, 101, 0, true), () -> x.set(p, 101, 1, 0, true), () -> x.has(p, 101, false),
            () -> x.remove(p, 101), () -> x.define(p, 101, 0, 0, 0), () -> x.about(p, 101, 0), () -> x.keys(p, false),
            () -> x.parent(p), () -> x.setParent(p, -1), () -> x.open(p), () -> x.shut(p)
        };
    }

    /** Each trap stands alone in its handler and throws: only the method of its name finds it. */
    private static void traps(Check t) {
        for (int trap = 120; trap <= 130; trap++) {
            ObjectRules x = new ObjectRules();
            int p = Kit.proxyThrowing(x, x.make(-1), trap, trap);
            Check.Call[] methods = methods(x, p);
            for (int i = 0; i < methods.length; i++) {
                if (i == trap - 120) {
                    t.thrown(methods[i], "trap " + trap + " by method " + i);
                    t.is(trap, x.count(3), "trap " + trap);
                    t.is(1, x.count(1), "trap " + trap + " is called once");
                } else if (i != 1 || trap != 124 && trap != 125) {
                    // [[Set]] comes back to the PROXY as its receiver, and asks for its property and defines it.
                    t.taken(methods[i], "method " + i);
                    t.is(0, x.count(1), "trap " + trap + " is not called by method " + i);
                }
            }
        }
    }

    private static void noOtherTraps(Check t) {
        ObjectRules x = new ObjectRules();
        int target = x.make(-1);
        int handler = x.make(-1);
        int f = x.function(3, 0, 1);
        for (int key = 0; key < 250; key++) {
            if (key < 120 || key > 130) {
                x.set(handler, key, f, 0, true);
            }
        }
        int p = x.proxy(target, handler);
        t.yes(x.set(p, 101, 5, 0, true), "set");
        t.is(5, x.get(p, 101, 0, true), "get");
        t.yes(x.has(p, 101, false), "has");
        t.is(7, x.about(p, 101, 0), "about");
        t.yes(x.define(p, 101, Kit.VALUE, 6, 0), "define");
        t.is(1, x.keys(p, true), "keys");
        t.yes(x.remove(p, 101), "remove");
        t.is(-1, x.parent(p), "parent");
        t.yes(x.setParent(p, -1), "setParent");
        t.yes(x.open(p), "open");
        t.yes(x.shut(p), "shut");
        t.no(x.open(target), "all came to the target");
    }
}
