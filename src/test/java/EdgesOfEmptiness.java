/** Promises 7 to 10, 13 and 17 to 20 where there is nothing, where there is all that can be, and at the end of a chain. */
public final class EdgesOfEmptiness {
    public static void main(String[] args) {
        Check t = new Check();
        nothing(t);
        undefinedIsThere(t);
        all(t);
        levelsOfNothing(t);
        levelsOfAll(t);
        assigned(t);
        shutTwice(t);
        t.end();
    }

    private static void nothing(Check t) {
        ObjectRules x = new ObjectRules();
        int[] objects = {x.make(-1), x.make(x.make(-1)), x.function(0, 0, 0), x.proxy(x.make(-1), -2)};
        for (int o : objects) {
            for (int key : new int[] {0, 99, 100, 101, 199, 200, 249}) {
                t.is(-1, x.get(o, key, 0, true), "get " + key + " of " + o);
                t.no(x.has(o, key, false), "has " + key + " of " + o);
                t.no(x.has(o, key, true), "has own " + key + " of " + o);
                t.yes(x.remove(o, key), "remove " + key + " of " + o);
                t.is(-1, x.about(o, key, 0), "about " + key + " of " + o);
            }
            t.is(0, x.keys(o, true), "keys of " + o);
            t.yes(x.open(o), "open " + o);
            t.is(0, x.assign(o, o), "assign " + o);
        }
    }

    /** A property that is undefined is not one that is not there. */
    private static void undefinedIsThere(Check t) {
        ObjectRules x = new ObjectRules();
        int top = x.make(-1);
        int o = x.make(top);
        x.set(top, 101, 5, 0, true);
        t.yes(x.set(o, 101, -1, 0, true), "undefined");
        t.is(-1, x.get(o, 101, 0, true), "hides what is above");
        t.yes(x.has(o, 101, true), "it is there");
        t.is(7, x.about(o, 101, 0), "with its flags");
        t.is(-1, x.about(o, 101, 1), "its value is -1");
        t.is(1, x.assign(x.make(-1), o), "it is assigned");
        t.yes(x.remove(o, 101), "it goes");
        t.is(5, x.get(o, 101, 0, true), "what is above is seen");
        x.define(o, 101, Kit.GET, -1, 0);
        t.is(-1, x.get(o, 101, 0, true), "a get that is undefined hides it too");
    }

    private static ObjectRules filled() {
        ObjectRules x = new ObjectRules();
        int o = x.make(-1);
        for (int key = 249; key >= 0; key--) {
            x.set(o, key, key, 0, true);
        }
        return x;
    }

    private static void all(Check t) {
        ObjectRules x = filled();
        t.is(250, x.keys(-2, true), "all KEYS");
        t.is(250, x.count(2), "are THE KEYS");
        t.yes(x.set(-2, 0, 7, 0, true), "the first is there already");
        t.yes(x.set(-2, 249, 7, 0, true), "so is the last");
        t.is(250, x.keys(-2, false), "none came");
        t.yes(x.remove(-2, 0), "the first goes");
        t.yes(x.remove(-2, 249), "the last goes");
        t.is(248, x.keys(-2, false), "two are gone");
    }

    private static void levelsOfNothing(Check t) {
        ObjectRules x = new ObjectRules();
        for (int o : new int[] {x.make(-1), x.function(0, 0, 0), x.proxy(x.make(-1), x.make(-1))}) {
            t.no(x.level(o, true, false), "it is open, so not sealed: " + o);
            t.no(x.level(o, true, true), "nor frozen: " + o);
            t.yes(x.shut(o), "shut: " + o);
            t.yes(x.level(o, true, false), "it is sealed: " + o);
            t.yes(x.level(o, true, true), "it is frozen: " + o);
            t.yes(x.level(o, false, false), "sealed: " + o);
            t.yes(x.level(o, false, true), "frozen: " + o);
        }
        int a = x.array(0);
        x.shut(a);
        t.yes(x.level(a, true, false), "an ARRAY that is shut is sealed");
        t.no(x.level(a, true, true), "but not frozen, for its length is writable");
        t.yes(x.level(a, false, true), "till it is");
        t.yes(x.level(a, true, true), "it is");
        t.data(x, a, 100, 0, 0, "its length");
    }

    private static void levelsOfAll(Check t) {
        ObjectRules x = filled();
        t.yes(x.level(-2, false, false), "sealed");
        t.yes(x.level(-2, true, false), "it is");
        t.no(x.level(-2, true, true), "it is not frozen");
        t.is(3, x.about(-2, 0, 0), "the first");
        t.is(3, x.about(-2, 249, 0), "the last");
        t.yes(x.level(-2, false, true), "frozen");
        t.yes(x.level(-2, true, true), "it is");
        t.is(2, x.about(-2, 0, 0), "the first");
        t.is(2, x.about(-2, 249, 0), "the last");
        t.no(x.set(-2, 249, 1, 0, true), "nothing is set");
        t.no(x.remove(-2, 0), "nothing goes");
        t.yes(x.level(-2, false, false), "sealed once more");
        t.is(2, x.about(-2, 0, 0), "it is frozen still");
    }

    private static void assigned(Check t) {
        ObjectRules x = filled();
        int to = x.make(-1);
        t.is(250, x.assign(to, -2), "all were set");
        t.is(249, x.get(to, 249, 0, true), "the last");
        x.define(-2, 249, Kit.ENUMERABLE, 0, 0);
        t.is(249, x.assign(to, -2), "all but one that is not enumerable");
        int none = x.make(-2);
        t.is(0, x.assign(to, none), "none of what is above");
        int shut = Kit.shutObject(x);
        t.is(0, x.assign(shut, none), "none, to one that is not extensible");
        t.typeError(() -> x.assign(shut, -2), "one is too many there");
        t.is(250, x.keys(to, false), "what was set stays");
    }

    private static void shutTwice(Check t) {
        ObjectRules x = new ObjectRules();
        int o = x.make(-1);
        int p = x.proxy(o, x.make(-1));
        t.yes(x.open(p), "open");
        t.yes(x.shut(p), "shut");
        t.no(x.open(p), "not open");
        t.no(x.open(o), "nor is the target");
        t.yes(x.shut(p), "shut again");
        t.yes(x.shut(o), "the target too");
        t.no(x.set(o, 101, 1, 0, true), "nothing comes");
        t.is(0, x.keys(o, false), "it is empty");
    }
}
