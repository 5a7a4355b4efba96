/** Promise 6: revoke. */
public final class P06Revoke {
    public static void main(String[] args) {
        Check t = new Check();
        ObjectRules x = new ObjectRules();
        int target = x.make(-1);
        int handler = Kit.reflectingHandler(x);
        int p = x.proxy(target, handler);
        t.yes(x.set(p, 101, 5, 0, true), "it stands");
        t.yes(x.revoke(p), "it was not revoked");
        t.no(x.revoke(p), "it was");
        t.no(x.revoke(p), "it is still");

        t.typeError(() -> x.get(p, 101, 0, true), "[[Get]]");
        t.typeError(() -> x.set(p, 101, 5, 0, true), "[[Set]]");
        t.typeError(() -> x.has(p, 101, false), "[[HasProperty]]");
        t.typeError(() -> x.has(p, 101, true), "HasOwnProperty");
        t.typeError(() -> x.remove(p, 101), "[[Delete]]");
        t.typeError(() -> x.define(p, 101, 0, 0, 0), "[[DefineOwnProperty]]");
        t.typeError(() -> x.about(p, 101, 0), "[[GetOwnProperty]]");
        t.typeError(() -> x.keys(p, true), "[[OwnPropertyKeys]]");
        t.typeError(() -> x.parent(p), "[[GetPrototypeOf]]");
        t.typeError(() -> x.setParent(p, -1), "[[SetPrototypeOf]]");
        t.typeError(() -> x.open(p), "[[IsExtensible]]");
        t.typeError(() -> x.shut(p), "[[PreventExtensions]]");
        t.typeError(() -> x.level(p, true, true), "TestIntegrityLevel");
        t.typeError(() -> x.level(p, false, true), "SetIntegrityLevel");
        t.typeError(() -> x.assign(p, target), "assign to it");
        t.typeError(() -> x.assign(target, p), "assign from it");
        t.is(0, x.count(1), "no trap was called");
        t.is(5, x.get(target, 101, 0, true), "the target stands");

        int q = x.proxy(p, x.make(-1));
        t.typeError(() -> x.get(q, 101, 0, true), "a revoked target");
        int r = x.proxy(target, p);
        t.typeError(() -> x.get(r, 101, 0, true), "a revoked handler");
        t.typeError(() -> x.get(x.make(p), 101, 0, true), "a revoked prototype");
        t.is(-1, x.get(x.make(-1), 101, p, false), "a revoked receiver is not asked by get");
        t.typeError(() -> x.set(x.make(-1), 101, 1, p, false), "but by set");
        t.yes(x.revoke(r), "another PROXY was not revoked");

        int array = x.array(1);
        int function = x.function(0, 0, 0);
        for (int v : new int[] {target, array, function, -1, 0, 5, 1000, 1250, -600, Integer.MAX_VALUE, Integer.MIN_VALUE}) {
            t.illegal(() -> x.revoke(v), "revoke(" + v + ")");
        }
        t.end();
    }
}
