/** Promise 6: "The PROXY (else IllegalArgumentException) is revoked: whether it was not." */
public final class EdgesOfRevoking {
    public static void main(String[] args) {
        Check t = new Check();
        onceAndAgain(t);
        noProxies(t);
        whileItStands(t);
        revokedAsked(t);
        theLast(t);
        t.end();
    }

    private static void onceAndAgain(Check t) {
        ObjectRules x = new ObjectRules();
        int target = x.make(-1);
        int p = x.proxy(target, target);
        int q = x.proxy(target, target);
        t.yes(x.revoke(p), "it was not revoked");
        t.no(x.revoke(p), "it was revoked already");
        t.no(x.revoke(p), "and again");
        t.yes(x.revoke(q), "the other was not");
        t.no(x.revoke(q), "it was revoked already");
        int fresh = x.proxy(p, q);
        t.yes(x.revoke(fresh), "one of revoked ones was not");
        t.is(4, x.count(0), "a revoked PROXY is an OBJECT still");
        t.yes(x.set(target, 101, p, 0, true), "and a VALUE");
        t.is(p, x.get(target, 101, 0, true), "that is kept");
    }

    private static void noProxies(Check t) {
        int[] none = {World.PLAIN, World.EMPTY, World.ARRAY, World.FUNCTION, World.THROWS, World.LAST, -1, 0, 1, 999, 1000,
            1249, 1250, World.FIRST_THAT_IS_NONE, -601, -602, Integer.MAX_VALUE, Integer.MIN_VALUE};
        String before = World.state(World.make());
        for (int v : none) {
            ObjectRules x = World.make();
            t.illegal(() -> x.revoke(v), "revoke(" + v + ")");
            t.is(0, x.count(1), "nothing is called, " + v);
            t.same(before, World.state(x), "nothing changes, " + v);
        }
        ObjectRules x = World.make();
        t.yes(x.revoke(World.PROXY), "a PROXY");
        t.yes(x.revoke(World.THROWING_PROXY), "a PROXY whose traps throw");
        t.no(x.revoke(World.REVOKED), "a PROXY that was revoked");
        t.is(0, x.count(1), "no trap is called");
    }

    private static void whileItStands(Check t) {
        ObjectRules x = new ObjectRules();
        int target = x.make(-1);
        int p = Kit.proxyGiving(x, target, Kit.TRAP_GET, 5);
        t.is(5, x.get(p, 101, 0, true), "before");
        t.illegal(() -> x.revoke(target), "a call that is refused");
        t.is(5, x.get(p, 101, 0, true), "revokes nothing");
        t.yes(x.revoke(p), "revoked");
        t.typeError(() -> x.get(p, 101, 0, true), "after");
        t.is(0, x.count(1), "its trap is not called");
        t.yes(x.open(target), "its target stands");
    }

    private static void revokedAsked(Check t) {
        for (Place place : Place.OBJECTS) {
            ObjectRules x = World.make();
            if (place.name.startsWith("proxy")) {
                t.taken(() -> place.call.with(x, World.REVOKED), place.name);
            } else {
                t.typeError(() -> place.call.with(x, World.REVOKED), place.name);
                t.same(World.state(World.make()), World.state(x), place.name + " changes nothing");
            }
        }
        ObjectRules x = World.make();
        t.is(World.REVOKED, x.parent(x.make(World.REVOKED)), "as a prototype it is not asked");
        t.no(x.has(x.make(World.REVOKED), 101, true), "nor for what is own");
        t.typeError(() -> x.has(x.make(World.REVOKED), 101, false), "but for what is not");
    }

    private static void theLast(Check t) {
        ObjectRules x = Fill.objects(599);
        int p = x.proxy(-2, -2);
        t.is(-601, p, "OBJECT 599");
        t.yes(x.revoke(-601), "is revoked");
        t.no(x.revoke(-601), "and was");
        t.illegal(() -> x.revoke(-602), "OBJECT 600 is none");
    }
}
