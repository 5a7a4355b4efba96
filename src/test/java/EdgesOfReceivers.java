/** "receiver is not looked at if itself: it is o then." */
public final class EdgesOfReceivers {
    private static final int[] NO_VALUES = {1250, -700, Integer.MAX_VALUE, Integer.MIN_VALUE};

    public static void main(String[] args) {
        Check t = new Check();
        itself(t);
        another(t);
        throughProxies(t);
        t.end();
    }

    private static void itself(Check t) {
        ObjectRules x = new ObjectRules();
        int o = x.make(-1);
        int other = x.make(-1);
        int f = x.function(1, 102, 0);
        int g = x.function(2, 102, 0);
        x.define(o, 101, Kit.GET | Kit.SET, f, g);
        for (int receiver : new int[] {-1, 0, 1249, other, x.array(0), Kit.revoked(x)}) {
            t.yes(x.set(o, 101, 5, receiver, true), "set, receiver " + receiver);
            t.is(5, x.get(o, 101, receiver, true), "T is o, receiver " + receiver);
            t.yes(x.set(o, 103, 6, receiver, true), "a value, receiver " + receiver);
            t.is(6, x.get(o, 103, receiver, true), "is o's, receiver " + receiver);
        }
        for (int receiver : NO_VALUES) {
            t.yes(x.set(o, 101, 7, receiver, true), "set, no VALUE " + receiver);
            t.is(7, x.get(o, 101, receiver, true), "get, no VALUE " + receiver);
        }
        t.is(0, x.keys(other, false), "the other one has nothing");
    }

    private static void another(Check t) {
        ObjectRules x = new ObjectRules();
        int o = x.make(-1);
        int other = x.make(-1);
        x.define(o, 101, Kit.GET | Kit.SET, x.function(1, 102, 0), x.function(2, 102, 0));
        String before = State.ofOne(x, o);
        for (int receiver : NO_VALUES) {
            t.illegal(() -> x.set(o, 101, 5, receiver, false), "set, no VALUE " + receiver);
            t.illegal(() -> x.get(o, 101, receiver, false), "get, no VALUE " + receiver);
            t.is(0, x.count(1), "nothing is called");
        }
        t.yes(x.set(o, 101, 5, other, false), "another one");
        t.is(5, x.get(o, 101, other, false), "is T");
        t.is(-1, x.get(o, 101, o, false), "o itself may be given too");
        t.same(before, State.ofOne(x, o), "o stays");
        t.yes(x.set(o, 103, 5, o, false), "o as its own receiver");
        t.is(5, x.get(o, 103, 0, true), "is set");
        for (int v : new int[] {-1, 0, 999, 1000, 1249}) {
            t.no(x.set(o, 103, 6, v, false), "no object has a property set: " + v);
            t.is(5, x.get(o, 103, v, false), "but is no matter to get: " + v);
        }
    }

    /** A PROXY that is o is the receiver, also where its target is asked. */
    private static void throughProxies(Check t) {
        ObjectRules x = new ObjectRules();
        int target = x.make(-1);
        x.set(target, 102, 5, 0, true);
        x.define(target, 101, Kit.GET, x.function(1, 102, 0), 0);
        int handler = Kit.handler(x, Kit.TRAP_GET, 4, 0);
        int get = Kit.functionOf(handler);
        int p = x.proxy(target, handler);
        t.is(5, x.get(p, 101, -700, true), "the getter asks the PROXY again");
        t.is(3, x.count(1), "so the trap is called twice");
        t.is(get, x.call(2), "the second time behind the getter");
        t.is(5, x.get(p, 101, target, false), "the target as receiver");
        t.is(2, x.count(1), "is asked itself");
        int low = x.make(p);
        t.is(-1, x.get(low, 101, -1, false), "undefined as receiver");
        t.is(5, x.get(low, 101, -700, true), "one below the PROXY");
        t.is(3, x.count(1), "asks it twice too");
    }
}
