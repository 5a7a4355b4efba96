/** A place of the face that takes an OBJECT, a KEY or a VALUE: the call with v there, on a World, all else being right. */
final class Place {
    interface Call {
        Object with(ObjectRules x, int v);
    }

    private static final int O = World.PLAIN;
    private static final int EMPTY = World.EMPTY;

    final String name;
    final Call call;

    private Place(String name, Call call) {
        this.name = name;
        this.call = call;
    }

    static final Place[] OBJECTS = {
        new Place("proxy, target", (x, v) -> x.proxy(v, O)),
        new Place("proxy, handler", (x, v) -> x.proxy(O, v)),
        new Place("get, o", (x, v) -> x.get(v, 103, 0, true)),
        new Place("set, o", (x, v) -> x.set(v, 103, 1, 0, true)),
        new Place("has, o", (x, v) -> x.has(v, 103, false)),
        new Place("has own, o", (x, v) -> x.has(v, 103, true)),
        new Place("remove, o", (x, v) -> x.remove(v, 103)),
        new Place("define, o", (x, v) -> x.define(v, 103, 0, 0, 0)),
        new Place("about, o", (x, v) -> x.about(v, 103, 0)),
        new Place("keys, o", (x, v) -> x.keys(v, false)),
        new Place("keys that are held, o", (x, v) -> x.keys(v, true)),
        new Place("parent, o", (x, v) -> x.parent(v)),
        new Place("setParent, o", (x, v) -> x.setParent(v, -1)),
        new Place("open, o", (x, v) -> x.open(v)),
        new Place("shut, o", (x, v) -> x.shut(v)),
        new Place("level asked, o", (x, v) -> x.level(v, true, true)),
        new Place("level set, o", (x, v) -> x.level(v, false, false)),
        new Place("assign, o", (x, v) -> x.assign(v, O)),
        new Place("assign, from", (x, v) -> x.assign(EMPTY, v)),
    };

    /** OBJECTS that may be -1 too. */
    static final Place[] PROTOTYPES = {
        new Place("make, parent", (x, v) -> x.make(v)),
        new Place("setParent, v", (x, v) -> x.setParent(EMPTY, v)),
    };

    static final Place[] KEYS = {
        new Place("function, key", (x, v) -> x.function(1, v, 0)),
        new Place("get, key", (x, v) -> x.get(O, v, 0, true)),
        new Place("set, key", (x, v) -> x.set(O, v, 1, 0, true)),
        new Place("has, key", (x, v) -> x.has(O, v, false)),
        new Place("has own, key", (x, v) -> x.has(O, v, true)),
        new Place("remove, key", (x, v) -> x.remove(O, v)),
        new Place("define, key", (x, v) -> x.define(O, v, 0, 0, 0)),
        new Place("about, key", (x, v) -> x.about(O, v, 0)),
    };

    static final Place[] VALUES = {
        new Place("function, v", (x, v) -> x.function(0, 0, v)),
        new Place("get, receiver", (x, v) -> x.get(O, 103, v, false)),
        new Place("set, v", (x, v) -> x.set(O, 103, v, 0, true)),
        new Place("set, receiver", (x, v) -> x.set(O, 103, 1, v, false)),
        new Place("define, a as a value", (x, v) -> x.define(O, 103, Kit.VALUE, v, 0)),
        new Place("define, a as get", (x, v) -> x.define(O, 103, Kit.GET, v, 0)),
        new Place("define, b as set", (x, v) -> x.define(O, 103, Kit.SET, 0, v)),
    };
}
