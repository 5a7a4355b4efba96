/**
 * "OBJECTS, numbered from 0 as they come to be, also those that FromPropertyDescriptor and CreateArrayFromList make";
 * "nothing has a prototype that was not given"; promise 1: "No OBJECTS."
 */
public final class EdgesOfNumbering {
    public static void main(String[] args) {
        Check t = new Check();
        noneAtFirst(t);
        theFirst(t);
        inTheirOrder(t);
        refusedTakesNoNumber(t);
        theLast(t);
        noPrototypes(t);
        t.end();
    }

    private static void noneAtFirst(Check t) {
        for (Place place : Place.OBJECTS) {
            for (int v : new int[] {-2, -3, -601, -602}) {
                ObjectRules x = new ObjectRules();
                t.illegal(() -> place.call.with(x, v), place.name + " " + v + " of a new object");
                t.is(0, x.count(0), place.name + " " + v + " makes none");
            }
        }
        ObjectRules x = new ObjectRules();
        t.illegal(() -> x.revoke(-2), "revoke of a new object");
        t.illegal(() -> x.make(-2), "make of a new object");
        t.is(-2, x.make(-1), "after refused calls the first is OBJECT 0");
    }

    private static void theFirst(Check t) {
        t.is(-2, new ObjectRules().make(-1), "an ordinary one");
        t.is(-2, new ObjectRules().array(100), "an ARRAY");
        t.is(-2, new ObjectRules().function(5, 249, 1249), "a FUNCTION");
        ObjectRules x = new ObjectRules();
        x.make(-1);
        t.is(-3, x.proxy(-2, -2), "a PROXY can not be the first");
    }

    private static void inTheirOrder(Check t) {
        ObjectRules x = new ObjectRules();
        t.is(-2, x.make(-1), "OBJECT 0");
        t.is(-3, x.array(0), "OBJECT 1");
        t.is(-4, x.function(4, 0, 0), "OBJECT 2");
        t.is(-5, x.make(-1), "OBJECT 3");
        t.is(-6, x.proxy(-2, -5), "OBJECT 4");
        x.set(-2, 101, 5, 0, true);
        x.set(-5, Kit.TRAP_OWN, -4, 0, true);
        x.set(-5, Kit.TRAP_DEFINE, -4, 0, true);
        x.set(-5, Kit.TRAP_KEYS, -4, 0, true);
        t.is(7, x.about(-6, 101, 0), "OBJECT 5 is made by FromPropertyDescriptor");
        t.is(5, x.get(-7, 110, 0, true), "of the property's value");
        t.yes(x.define(-6, 101, Kit.VALUE, 6, 0), "OBJECT 6 is made for the trap");
        t.is(6, x.get(-8, 110, 0, true), "of what is defined");
        t.is(1, x.keys(-6, false), "OBJECT 7 is made by CreateArrayFromList");
        t.is(1101, x.get(-9, 0, 0, true), "of the KEYS");
        t.is(-10, x.make(-1), "OBJECT 8");
        t.is(9, x.count(0), "OBJECTS");
    }

    private static void refusedTakesNoNumber(Check t) {
        ObjectRules x = new ObjectRules();
        x.make(-1);
        t.illegal(() -> x.make(0), "make");
        t.illegal(() -> x.array(101), "array");
        t.illegal(() -> x.function(6, 0, 0), "function");
        t.illegal(() -> x.proxy(-2, -3), "proxy");
        t.is(1, x.count(0), "none came to be");
        t.is(-3, x.make(-1), "the next number");
    }

    private static void theLast(Check t) {
        ObjectRules x = Fill.objects(599);
        t.illegal(() -> x.open(-601), "OBJECT 599 is not there yet");
        t.is(-601, x.make(-2), "OBJECT 599");
        t.yes(x.open(-601), "it is there");
        t.is(-2, x.parent(-601), "with its prototype");
        for (Place place : Place.OBJECTS) {
            t.illegal(() -> place.call.with(x, -602), place.name + " of OBJECT 600");
        }
        t.illegal(() -> x.set(-601, 101, -602, 0, true), "OBJECT 600 is no VALUE");
        t.yes(x.set(-601, 101, -601, 0, true), "OBJECT 599 is one");
    }

    private static void noPrototypes(Check t) {
        ObjectRules x = new ObjectRules();
        int target = x.make(-1);
        x.set(target, 101, 5, 0, true);
        int handler = Kit.reflectingHandler(x);
        int p = x.proxy(target, handler);
        int made = -2 - x.count(0);
        x.about(p, 101, 0);
        x.define(p, 101, 0, 0, 0);
        x.keys(p, false);
        t.is(-1, x.parent(made), "of the descriptor that a trap gives");
        t.is(-1, x.parent(made - 1), "of the descriptor that a trap is given");
        t.is(-1, x.parent(made - 2), "of the list that a trap gives");
        for (int key = 0; key < 250; key++) {
            if (x.has(made - 1, key, false)) {
                t.is(-2, key, "a KEY that was not given");
            }
        }
    }
}
