/** FULL: "an OBJECT more than 600", whoever makes it. */
public final class LimitsOfObjects {
    private interface Maker {
        Object make(ObjectRules x);
    }

    public static void main(String[] args) {
        Check t = new Check();
        maker(t, "make", x -> x.make(-1));
        maker(t, "array", x -> x.array(0));
        maker(t, "function", x -> x.function(0, 0, 0));
        maker(t, "proxy", x -> x.proxy(-2, -2));
        rulesThatMake(t);
        roomForTwoOfThree(t);
        noneIsNeeded(t);
        t.end();
    }

    private static void maker(Check t, String name, Maker maker) {
        ObjectRules x = Fill.objects(599);
        t.is(-601, (Integer) maker.make(x), name + " makes OBJECT 599");
        t.is(600, x.count(0), name + ", 600 OBJECTS");
        t.full(() -> maker.make(x), name + ", one more");
        t.full(() -> maker.make(x), name + ", and again");
        t.is(600, x.count(0), name + ", 600 OBJECTS still");
        t.yes(x.open(-601), name + ", the last is there");
        t.illegal(() -> x.open(-602), name + ", one behind it is not");
    }

    /** n OBJECTS, among them one (VALUE o) and PROXIES of it with the traps that make OBJECTS. */
    private static final class Traps {
        final ObjectRules x;
        final int o;
        final int owns;
        final int defines;
        final int lists;

        Traps(int n) {
            x = Fill.objects(n - 10);
            o = x.make(-1);
            x.set(o, 101, 1, 0, true);
            owns = Kit.proxyReflecting(x, o, Kit.TRAP_OWN);
            defines = Kit.proxyReflecting(x, o, Kit.TRAP_DEFINE);
            lists = Kit.proxyReflecting(x, o, Kit.TRAP_KEYS);
        }
    }

    private static void rulesThatMake(Check t) {
        Traps a = new Traps(599);
        t.is(599, a.x.count(0), "599 OBJECTS");
        t.is(7, a.x.about(a.owns, 101, 0), "the last is a descriptor that a trap gives");
        t.is(600, a.x.count(0), "600 OBJECTS");
        t.full(() -> a.x.about(a.owns, 101, 0), "one more");
        t.is(1, a.x.count(1), "the trap was called");

        Traps b = new Traps(599);
        t.yes(b.x.define(b.defines, 102, 499, 3, 0), "the last is a descriptor that a trap is given");
        t.full(() -> b.x.define(b.defines, 103, 499, 3, 0), "one more");
        t.is(0, b.x.count(1), "the trap was not called");
        t.same(" parent -1 open 101=7/1/-1 102=7/3/-1", State.ofOne(b.x, b.o), "nothing was defined");

        Traps c = new Traps(599);
        t.is(1, c.x.keys(c.lists, true), "the last is a list");
        t.full(() -> c.x.keys(c.lists, true), "one more");
        t.is(1, c.x.count(1), "the trap was called");
        t.is(1, c.x.count(2), "THE KEYS stay");
        t.is(600, c.x.count(0), "600 OBJECTS still");
    }

    private static void roomForTwoOfThree(Check t) {
        Traps a = new Traps(598);
        a.x.set(a.o, 102, 2, 0, true);
        a.x.set(a.o, 103, 3, 0, true);
        int to = -2;
        a.x.remove(to, 101);
        a.x.remove(to, 102);
        a.x.remove(to, 103);
        t.full(() -> a.x.assign(to, a.owns), "room for two descriptors of three");
        t.is(1, a.x.get(to, 101, 0, true), "the first was set");
        t.is(2, a.x.get(to, 102, 0, true), "the second was set");
        t.no(a.x.has(to, 103, true), "the third was not");
        t.is(600, a.x.count(0), "600 OBJECTS");
    }

    private static void noneIsNeeded(Check t) {
        Traps a = new Traps(600);
        t.is(-1, a.x.about(a.owns, 102, 0), "what is not there needs no descriptor");
        t.is(1, a.x.get(a.owns, 101, 0, true), "nor does get");
        t.yes(a.x.set(a.o, 102, 2, 0, true), "a property is no OBJECT");
        t.is(2, a.x.keys(a.owns, true), "no trap, no list");
        t.yes(a.x.revoke(a.owns), "nor does revoke");
        t.is(600, a.x.count(0), "600 OBJECTS");
    }
}
