import java.util.NoSuchElementException;
import java.util.Random;

/**
 * Calls with any arguments in any state: an IllegalArgumentException comes exactly where an argument is none of its
 * kind, and nothing comes but what the document names. The seed is fixed, so each time the same calls are made.
 */
public final class AnyArguments {
    private static final int[] ODD = {Integer.MIN_VALUE, Integer.MAX_VALUE, -603, -602, -601, -1, 0, 1, 100, 101, 249,
        250, 251, 999, 1000, 1249, 1250, 512, 2000, -100000};

    private final Random random = new Random(20261115);
    private ObjectRules x;
    private int objects;
    private int wrong;

    public static void main(String[] args) {
        AnyArguments a = new AnyArguments();
        for (int run = 0; run < 500; run++) {
            a.run();
        }
        if (a.wrong > 0) {
            System.exit(1);
        }
    }

    private void run() {
        x = new ObjectRules();
        for (int i = 0; i < 8; i++) {
            x.make(-1);
        }
        objects = 8;
        // An object is used for at most 512 calls: these are four each.
        for (int i = 0; i < 125; i++) {
            one(random.nextInt(21));
            int n = x.count(0);
            int called = x.count(1);
            if (n < objects || n > 600 || called < 0 || called > 2000) {
                tell("OBJECTS or FUNCTIONS that can not be so many");
            }
            objects = n;
        }
    }

    private void tell(String what) {
        wrong++;
        System.out.println(what);
    }

    private boolean rare() {
        return random.nextInt(60) == 0;
    }

    private int object() {
        if (rare()) {
            return odd();
        }
        // Often one of the latest, so that PROXIES stand on PROXIES.
        return random.nextBoolean() ? -2 - random.nextInt(objects) : -2 - Math.max(0, objects - 1 - random.nextInt(4));
    }

    private int odd() {
        return random.nextInt(3) == 0 ? random.nextInt() : ODD[random.nextInt(ODD.length)];
    }

    private int key() {
        if (rare()) {
            return odd();
        }
        switch (random.nextInt(4)) {
            case 0: return random.nextInt(5);
            case 1: return 99 + random.nextInt(4);
            case 2: return 110 + random.nextInt(6);
            default: return 120 + random.nextInt(11);
        }
    }

    private int value() {
        switch (random.nextInt(4)) {
            case 0: return rare() ? odd() : random.nextInt(12) - 1;
            case 1: return 1000 + random.nextInt(250);
            default: return object();
        }
    }

    private boolean isObject(int v) {
        return v <= -2 && v > -2 - objects;
    }

    private boolean isKey(int key) {
        return key >= 0 && key < 250;
    }

    private boolean isValue(int v) {
        return v >= -1 && v < 1250 || isObject(v);
    }

    private boolean bool() {
        return random.nextBoolean();
    }

    private void one(int which) {
        int o = object();
        int p = object();
        int key = key();
        int a = value();
        int b = value();
        int n = rare() ? odd() : random.nextInt(6);
        boolean c = bool();
        boolean d = bool();
        boolean own = isObject(o) && isKey(key);
        switch (which) {
            case 0: due(a == -1 || isObject(a), "make", () -> x.make(a)); break;
            case 1: due(n >= 0 && n <= 100, "array", () -> x.array(n)); break;
            case 2: due(n >= 0 && n <= 5 && isKey(key) && isValue(a), "function", () -> x.function(n, key, a)); break;
            case 3: due(isObject(o) && isObject(p), "proxy", () -> x.proxy(o, p)); break;
            case 4: if (rare()) { revoked(o); } break;
            case 5: due(own && (c || isValue(a)), "get", () -> x.get(o, key, a, c)); break;
            case 6: case 7: case 8: due(own && isValue(a) && (c || isValue(b)), "set", () -> x.set(o, key, a, b, c)); break;
            case 9: due(own, "has", () -> x.has(o, key, c)); break;
            case 10: due(own, "remove", () -> x.remove(o, key)); break;
            case 11: due(own && isValue(a) && isValue(b), "define", () -> x.define(o, key, random.nextInt(512), a, b)); break;
            case 12: due(own && n >= 0 && n <= 2, "about", () -> x.about(o, key, n)); break;
            case 13: due(isObject(o), "keys", () -> x.keys(o, c)); break;
            case 14: due(isObject(o), "parent", () -> x.parent(o)); break;
            case 15: due(isObject(o) && (a == -1 || isObject(a)), "setParent", () -> x.setParent(o, a)); break;
            case 16: due(isObject(o), "open", () -> x.open(o)); break;
            case 17: if (!isObject(o) || rare()) { due(isObject(o), "shut", () -> x.shut(o)); } break;
            case 18: due(isObject(o), "level", () -> x.level(o, c || !rare(), d)); break;
            case 19: due(isObject(o) && isObject(p), "assign", () -> x.assign(o, p)); break;
            default: asked(n); break;
        }
    }

    private void revoked(int o) {
        boolean isProxy = false;
        try {
            x.revoke(o);
            isProxy = true;
        } catch (IllegalArgumentException e) {
            isProxy = false;
        }
        if (isProxy && !isObject(o)) {
            tell("revoke of no OBJECT");
        }
    }

    private void asked(int n) {
        if (bool()) {
            due(n >= 0 && n <= 3, "count", () -> x.count(n));
            x.call(n);
            return;
        }
        int held = x.count(2);
        boolean there = n >= 0 && n < held;
        boolean told;
        try {
            x.key(n);
            told = true;
        } catch (IndexOutOfBoundsException e) {
            told = e.getClass() != IndexOutOfBoundsException.class;
        }
        if (there != told) {
            tell("key(" + n + ") of " + held);
        }
    }

    private void due(boolean legal, String name, Check.Call call) {
        boolean refused = false;
        try {
            call.run();
        } catch (IllegalArgumentException e) {
            refused = e.getClass() == IllegalArgumentException.class;
        } catch (IllegalStateException | ArithmeticException | NoSuchElementException | UnsupportedOperationException e) {
            if (name.equals("count")) {
                tell(name + " threw " + e);
            }
        } catch (RuntimeException | Error e) {
            tell(name + " threw " + e);
        }
        if (refused == legal) {
            tell(name + (legal ? " was refused" : " was not refused"));
        }
    }
}
