/** Ten OBJECTS of all kinds, for calls that are to be refused, and those of them that State may look at. */
final class World {
    static final int PLAIN = -2;
    static final int EMPTY = -3;
    static final int ARRAY = -4;
    static final int FUNCTION = -5;
    static final int PROXY = -6;
    static final int REVOKED = -7;
    static final int THROWS = -8;
    static final int THROWING_HANDLER = -9;
    static final int THROWING_PROXY = -10;
    static final int LAST = -11;
    static final int FIRST_THAT_IS_NONE = -12;

    private World() {
    }

    static ObjectRules make() {
        ObjectRules x = new ObjectRules();
        x.make(-1);
        x.make(-1);
        x.array(3);
        x.function(0, 0, 7);
        x.proxy(PLAIN, EMPTY);
        x.proxy(PLAIN, EMPTY);
        x.function(3, 0, 55);
        x.make(-1);
        x.proxy(PLAIN, THROWING_HANDLER);
        x.make(PLAIN);
        x.revoke(REVOKED);
        for (int trap = Kit.TRAP_GET; trap <= Kit.TRAP_PREVENT_EXTENSIONS; trap++) {
            x.set(THROWING_HANDLER, trap, THROWS, 0, true);
        }
        x.set(PLAIN, 101, 5, 0, true);
        x.define(PLAIN, 102, Kit.GET | Kit.SET, FUNCTION, FUNCTION);
        x.set(ARRAY, 0, 1, 0, true);
        x.keys(PLAIN, true);
        try {
            x.open(THROWING_PROXY);
        } catch (java.util.NoSuchElementException e) {
            x.get(PLAIN, 102, 0, true);
        }
        return x;
    }

    static String state(ObjectRules x) {
        return State.of(x, PLAIN, EMPTY, ARRAY, FUNCTION, THROWS, THROWING_HANDLER, LAST);
    }
}
