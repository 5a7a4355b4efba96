/** What can be seen of an ObjectRules, as a text: two that stand alike show the same one. */
final class State {
    private State() {
    }

    /** Of all but PROXIES, whose traps would be called: those that are looked at are given. It sets THE KEYS. */
    static String of(ObjectRules x, int... looked) {
        StringBuilder s = new StringBuilder();
        int held = x.count(2);
        s.append(x.count(0)).append(" OBJECTS, thrown ").append(x.count(3)).append(", THE KEYS");
        for (int i = 0; i < held; i++) {
            s.append(' ').append(x.key(i));
        }
        for (int o : looked) {
            s.append("; ").append(o).append(':').append(ofOne(x, o));
        }
        return s.toString();
    }

    static String ofOne(ObjectRules x, int o) {
        StringBuilder s = new StringBuilder();
        s.append(" parent ").append(x.parent(o)).append(x.open(o) ? " open" : " shut");
        int[] keys = new int[x.keys(o, true)];
        for (int i = 0; i < keys.length; i++) {
            keys[i] = x.key(i);
        }
        for (int key : keys) {
            s.append(' ').append(key).append('=').append(x.about(o, key, 0));
            s.append('/').append(x.about(o, key, 1)).append('/').append(x.about(o, key, 2));
        }
        return s.toString();
    }
}
