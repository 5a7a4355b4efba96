/** What many tests need: the numbers of the document by name, and OBJECTS that are made of several calls. */
final class Kit {
    static final int VALUE = 1;
    static final int WRITABLE = 2;
    static final int GET = 4;
    static final int SET = 8;
    static final int ENUMERABLE = 16;
    static final int CONFIGURABLE = 32;
    static final int WRITABLE_TRUE = 2 | 64;
    static final int ENUMERABLE_TRUE = 16 | 128;
    static final int CONFIGURABLE_TRUE = 32 | 256;

    static final int TRAP_GET = 120;
    static final int TRAP_SET = 121;
    static final int TRAP_HAS = 122;
    static final int TRAP_DELETE = 123;
    static final int TRAP_DEFINE = 124;
    static final int TRAP_OWN = 125;
    static final int TRAP_KEYS = 126;
    static final int TRAP_GET_PROTOTYPE = 127;
    static final int TRAP_SET_PROTOTYPE = 128;
    static final int TRAP_IS_EXTENSIBLE = 129;
    static final int TRAP_PREVENT_EXTENSIONS = 130;

    private Kit() {
    }

    static int value(int key) {
        return 1000 + key;
    }

    /** A handler whose one trap is a FUNCTION of this act and VALUE: the FUNCTION is the OBJECT behind it. */
    static int handler(ObjectRules x, int trap, int act, int v) {
        int handler = x.make(-1);
        x.set(handler, trap, x.function(act, 0, v), 0, true);
        return handler;
    }

    static int functionOf(int handler) {
        return handler - 1;
    }

    static int proxyGiving(ObjectRules x, int target, int trap, int v) {
        return x.proxy(target, handler(x, trap, 0, v));
    }

    static int proxyThrowing(ObjectRules x, int target, int trap, int v) {
        return x.proxy(target, handler(x, trap, 3, v));
    }

    static int proxyReflecting(ObjectRules x, int target, int trap) {
        return x.proxy(target, handler(x, trap, 4, 0));
    }

    /** A handler with all eleven traps, each a FUNCTION of its own of act 4. */
    static int reflectingHandler(ObjectRules x) {
        int handler = x.make(-1);
        for (int trap = TRAP_GET; trap <= TRAP_PREVENT_EXTENSIONS; trap++) {
            x.set(handler, trap, x.function(4, 0, 0), 0, true);
        }
        return handler;
    }

    static int trapOf(ObjectRules x, int handler, int trap) {
        return x.get(handler, trap, 0, true);
    }

    static int revoked(ObjectRules x) {
        int p = x.proxy(x.make(-1), x.make(-1));
        x.revoke(p);
        return p;
    }

    /** n PROXIES, each the target of the next, whose handlers have no traps: the last of them. */
    static int chain(ObjectRules x, int target, int n) {
        int handler = x.make(-1);
        int p = target;
        for (int i = 0; i < n; i++) {
            p = x.proxy(p, handler);
        }
        return p;
    }

    static int valueOf(ObjectRules x, int[] fieldNames, int[] values) {
        int o = x.make(-1);
        for (int i = 0; i < fieldNames.length; i++) {
            x.set(o, fieldNames[i], values[i], 0, true);
        }
        return o;
    }

    /** An OBJECT that tells a data property, as a getOwnPropertyDescriptor trap may give it. */
    static int descriptor(ObjectRules x, int v, int writable, int enumerable, int configurable) {
        return valueOf(x, new int[] {110, 111, 114, 115}, new int[] {v, writable, enumerable, configurable});
    }

    /** An ARRAY of these KEYS as values, as an ownKeys trap may give it. */
    static int list(ObjectRules x, int... keys) {
        int a = x.array(0);
        for (int i = 0; i < keys.length; i++) {
            x.set(a, i, value(keys[i]), 0, true);
        }
        return a;
    }

    static int shutObject(ObjectRules x) {
        int o = x.make(-1);
        x.shut(o);
        return o;
    }
}
