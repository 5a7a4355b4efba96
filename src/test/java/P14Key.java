/** Promise 14: key. */
public final class P14Key {
    public static void main(String[] args) {
        Check t = new Check();
        ObjectRules x = new ObjectRules();
        Class<IndexOutOfBoundsException> none = IndexOutOfBoundsException.class;
        t.fails(none, () -> x.key(0), "THE KEYS are none at first");
        int o = x.make(-1);
        x.set(o, 101, 1, 0, true);
        x.set(o, 3, 1, 0, true);
        x.set(o, 249, 1, 0, true);
        x.keys(o, true);
        t.is(3, x.key(0), "the first");
        t.is(101, x.key(1), "the second");
        t.is(249, x.key(2), "the last");
        for (int i : new int[] {3, 4, 250, -1, Integer.MAX_VALUE, Integer.MIN_VALUE}) {
            t.fails(none, () -> x.key(i), "key(" + i + ")");
        }
        t.is(3, x.key(0), "the first again");
        int p = x.make(-1);
        x.set(p, 200, 1, 0, true);
        x.keys(p, false);
        t.is(101, x.key(1), "not held");
        x.keys(p, true);
        t.is(200, x.key(0), "the new first");
        t.fails(none, () -> x.key(1), "the old second is none");

        int f = x.function(0, 0, 5);
        x.define(o, 102, Kit.GET, f, 0);
        x.get(o, 102, 0, true);
        x.key(0);
        t.called(x, "key is not the latest call", f);
        t.fails(none, () -> x.key(9), "nor is one that throws");
        t.called(x, "key that throws is not the latest call", f);
        t.end();
    }
}
