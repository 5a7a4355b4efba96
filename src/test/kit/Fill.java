/** Runs that fill what the document limits, within the 512 calls that an object is used for. */
final class Fill {
    private Fill() {
    }

    /** Exactly n OBJECTS, 3 to 600; most of them are the descriptors that a getOwnPropertyDescriptor trap makes. */
    static ObjectRules objects(int n) {
        ObjectRules x = new ObjectRules();
        int target = x.make(-1);
        for (int key = 101; key < 109; key++) {
            x.set(target, key, 1, 0, true);
        }
        int proxy = Kit.proxyReflecting(x, target, Kit.TRAP_OWN);
        while (x.count(0) + 8 <= n) {
            x.assign(target, proxy);
        }
        while (x.count(0) < n) {
            x.make(-1);
        }
        return x;
    }

    /** Exactly 5,999 properties: OBJECTS 0 to 22 have all 250 KEYS, and OBJECT 23 (VALUE -25) all but KEY 249. */
    static ObjectRules properties() {
        ObjectRules x = new ObjectRules();
        int first = x.make(-1);
        for (int key = 0; key < 250; key++) {
            x.set(first, key, 1, 0, true);
        }
        for (int i = 1; i < 24; i++) {
            x.make(-1);
        }
        for (int i = 1; i < 23; i++) {
            x.assign(-2 - i, first);
        }
        x.remove(first, 249);
        x.assign(-25, first);
        x.set(first, 249, 1, 0, true);
        return x;
    }
}
