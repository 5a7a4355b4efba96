import java.util.Arrays;
import java.util.NoSuchElementException;

/**
 * Objects by the rules of ECMA-262, 14th edition: each internal method is a call.
 *
 * An OBJECT is known inside by its VALUE too, so that no number has to be turned into another one
 * on its way through the rules; only Store knows in which row an OBJECT stands.
 */
public final class ObjectRules {

    private static final int UNDEFINED = -1;
    private static final int FIRST_OBJECT = -2;
    private static final int NUMBERS = 1000;
    private static final int FIRST_KEY_VALUE = 1000;

    private static final int KEYS = 250;
    private static final int INDEX_KEYS = 100;
    private static final int LENGTH = 100;
    private static final int FIRST_SYMBOL = 200;
    /** Stands for the Strings "100" and up, which only a long list asks for: no OBJECT holds it. */
    private static final int FOREIGN_KEY = 250;

    private static final int NAME_VALUE = 110;
    private static final int NAME_WRITABLE = 111;
    private static final int NAME_GET = 112;
    private static final int NAME_SET = 113;
    private static final int NAME_ENUMERABLE = 114;
    private static final int NAME_CONFIGURABLE = 115;

    private static final int NO_TRAP = 0;
    private static final int TRAP_GET = 120;
    private static final int TRAP_SET = 121;
    private static final int TRAP_HAS = 122;
    private static final int TRAP_DELETE = 123;
    private static final int TRAP_DEFINE = 124;
    private static final int TRAP_OWN = 125;
    private static final int TRAP_KEYS = 126;
    private static final int TRAP_GET_PROTOTYPE = 127;
    private static final int TRAP_SET_PROTOTYPE = 128;
    private static final int TRAP_IS_EXTENSIBLE = 129;
    private static final int TRAP_PREVENT_EXTENSIONS = 130;

    /** The fields of a descriptor, by the bits that define takes them. */
    private static final int VALUE = 1;
    private static final int WRITABLE = 2;
    private static final int GET = 4;
    private static final int SET = 8;
    private static final int ENUMERABLE = 16;
    private static final int CONFIGURABLE = 32;
    private static final int ALL_TRUE = WRITABLE | ENUMERABLE | CONFIGURABLE;
    private static final int ALL_FIELDS = 63;

    private static final int GIVE = 0;
    private static final int READ = 1;
    private static final int WRITE = 2;
    private static final int THROW = 3;
    private static final int REFLECT = 4;
    private static final int REFLECT_AND_GIVE = 5;

    private static final int MOST_OBJECTS = 600;
    private static final int MOST_PROPERTIES = 5999;
    private static final int MOST_LISTED = 100;
    private static final int MOST_UNDER_WAY = 40;
    private static final int MOST_CALLED = 2000;

    private final Store store = new Store();
    private final Descriptors descriptors = new Descriptors();
    private final KeyLists lists = new KeyLists();
    private final Trapless trapless = new Trapless();
    /** What ordinaryDefine looks at; nothing else runs while it does. */
    private final Descriptor current = new Descriptor();
    private final int[] heldKeys = new int[KEYS];
    private final int[] called = new int[MOST_CALLED];
    private int heldCount;
    private int calledCount;
    private int thrownLatest = UNDEFINED;
    private int depth;
    /** The greatest depth since getTrapOf asked a handler. */
    private int deepest;

    public ObjectRules() {
    }

    // ---------------------------------------------------------------- the public face

    public int make(int parent) throws IllegalArgumentException, UnsupportedOperationException {
        begin();
        requirePrototype(parent);
        return store.addOrdinary(parent);
    }

    public int array(int n) throws IllegalArgumentException, UnsupportedOperationException {
        begin();
        if (n < 0 || n > INDEX_KEYS) {
            throw new IllegalArgumentException("a length is 0 to 100");
        }
        return store.addArray(n);
    }

    public int function(int act, int key, int v) throws IllegalArgumentException, UnsupportedOperationException {
        begin();
        if (act < GIVE || act > REFLECT_AND_GIVE) {
            throw new IllegalArgumentException("an act is 0 to 5");
        }
        requireKey(key);
        requireValue(v);
        return store.addFunction(act, key, v);
    }

    public int proxy(int target, int handler) throws IllegalArgumentException, UnsupportedOperationException {
        begin();
        requireObject(target);
        requireObject(handler);
        return store.addProxy(target, handler);
    }

    public boolean revoke(int p) throws IllegalArgumentException {
        begin();
        if (!store.isProxy(p)) {
            throw new IllegalArgumentException("no PROXY");
        }
        boolean stood = !store.isRevoked(p);
        store.markRevoked(p);
        return stood;
    }

    public int get(int o, int key, int receiver, boolean itself) throws IllegalArgumentException, IllegalStateException, ArithmeticException, java.util.NoSuchElementException, UnsupportedOperationException {
        begin();
        requireObject(o);
        requireKey(key);
        requireReceiver(receiver, itself);
        return getFrom(o, key, itself ? o : receiver);
    }

    public boolean set(int o, int key, int v, int receiver, boolean itself) throws IllegalArgumentException, IllegalStateException, ArithmeticException, java.util.NoSuchElementException, UnsupportedOperationException {
        begin();
        requireObject(o);
        requireKey(key);
        requireValue(v);
        requireReceiver(receiver, itself);
        return setIn(o, key, v, itself ? o : receiver);
    }

    public boolean has(int o, int key, boolean own) throws IllegalArgumentException, IllegalStateException, ArithmeticException, java.util.NoSuchElementException, UnsupportedOperationException {
        begin();
        requireObject(o);
        requireKey(key);
        return own ? ownOf(o, key, descriptors.given(depth)) : hasIn(o, key);
    }

    public boolean remove(int o, int key) throws IllegalArgumentException, IllegalStateException, ArithmeticException, java.util.NoSuchElementException, UnsupportedOperationException {
        begin();
        requireObject(o);
        requireKey(key);
        return deleteFrom(o, key);
    }

    public boolean define(int o, int key, int fields, int a, int b) throws IllegalArgumentException, IllegalStateException, ArithmeticException, java.util.NoSuchElementException, UnsupportedOperationException {
        begin();
        requireObject(o);
        requireKey(key);
        requireValue(a);
        requireValue(b);
        Descriptor given = descriptors.given(depth);
        given.readBits(fields, a, b);
        requireCallable(given.getter);
        requireCallable(given.setter);
        requireOneKind(given);
        return defineOn(o, key, given);
    }

    public int about(int o, int key, int what) throws IllegalArgumentException, IllegalStateException, ArithmeticException, java.util.NoSuchElementException, UnsupportedOperationException {
        begin();
        requireObject(o);
        requireKey(key);
        if (what < 0 || what > 2) {
            throw new IllegalArgumentException("about tells 0 to 2");
        }
        Descriptor own = descriptors.given(depth);
        return ownOf(o, key, own) ? own.tell(what) : UNDEFINED;
    }

    public int keys(int o, boolean hold) throws IllegalArgumentException, IllegalStateException, ArithmeticException, java.util.NoSuchElementException, UnsupportedOperationException {
        begin();
        requireObject(o);
        int from = lists.top();
        int n = keysOf(o);
        if (hold) {
            heldCount = lists.copyTo(heldKeys, from, n);
        }
        return n;
    }

    public int key(int i) throws IndexOutOfBoundsException {
        if (i < 0 || i >= heldCount || i >= heldKeys.length) {
            throw new IndexOutOfBoundsException("no such one of THE KEYS");
        }
        return heldKeys[i];
    }

    public int parent(int o) throws IllegalArgumentException, IllegalStateException, ArithmeticException, java.util.NoSuchElementException, UnsupportedOperationException {
        begin();
        requireObject(o);
        return prototypeOf(o);
    }

    public boolean setParent(int o, int v) throws IllegalArgumentException, IllegalStateException, ArithmeticException, java.util.NoSuchElementException, UnsupportedOperationException {
        begin();
        requireObject(o);
        requirePrototype(v);
        return changePrototype(o, v);
    }

    public boolean open(int o) throws IllegalArgumentException, IllegalStateException, ArithmeticException, java.util.NoSuchElementException, UnsupportedOperationException {
        begin();
        requireObject(o);
        return isExtensible(o);
    }

    public boolean shut(int o) throws IllegalArgumentException, IllegalStateException, ArithmeticException, java.util.NoSuchElementException, UnsupportedOperationException {
        begin();
        requireObject(o);
        return preventExtensions(o);
    }

    public boolean level(int o, boolean asked, boolean frozen) throws IllegalArgumentException, IllegalStateException, ArithmeticException, java.util.NoSuchElementException, UnsupportedOperationException {
        begin();
        requireObject(o);
        return asked ? testLevel(o, frozen) : setLevel(o, frozen);
    }

    public int assign(int o, int from) throws IllegalArgumentException, IllegalStateException, ArithmeticException, java.util.NoSuchElementException, UnsupportedOperationException {
        begin();
        requireObject(o);
        requireObject(from);
        return assignAll(o, from);
    }

    public int call(int i) {
        return i >= 0 && i < calledCount && i < called.length ? called[i] : UNDEFINED;
    }

    public int count(int what) throws IllegalArgumentException {
        switch (what) {
            case 0:
                return store.size();
            case 1:
                return calledCount;
            case 2:
                return heldCount;
            case 3:
                return thrownLatest;
            default:
                throw new IllegalArgumentException("count tells 0 to 3");
        }
    }

    // ---------------------------------------------------------------- what a call begins with

    /** A call that threw left its depth and its lists behind: each call starts anew. */
    private void begin() {
        depth = 0;
        calledCount = 0;
        lists.cutTo(0);
        trapless.forget();
    }

    private void requireObject(int v) {
        if (!store.isObject(v)) {
            throw new IllegalArgumentException("no OBJECT");
        }
    }

    private void requirePrototype(int v) {
        if (v != UNDEFINED) {
            requireObject(v);
        }
    }

    private void requireKey(int key) {
        if (key < 0 || key >= KEYS) {
            throw new IllegalArgumentException("no KEY");
        }
    }

    private void requireValue(int v) {
        boolean plain = v >= UNDEFINED && v < FIRST_KEY_VALUE + KEYS;
        if (!plain && !store.isObject(v)) {
            throw new IllegalArgumentException("no VALUE");
        }
    }

    private void requireReceiver(int receiver, boolean itself) {
        if (!itself) {
            requireValue(receiver);
        }
    }

    // ---------------------------------------------------------------- what is under way

    private void enter() {
        reach(depth + 1);
        depth++;
    }

    private void reach(int level) {
        if (level > MOST_UNDER_WAY) {
            throw new UnsupportedOperationException("more than 40 under way in one another");
        }
        deepest = Math.max(deepest, level);
    }

    private void enterProxy(int p) {
        enter();
        if (store.isRevoked(p)) {
            throw new IllegalStateException("the PROXY is revoked");
        }
    }

    private void enterFunction(int f) {
        if (calledCount >= MOST_CALLED || calledCount >= called.length) {
            throw new UnsupportedOperationException("more than 2,000 FUNCTIONS in one call");
        }
        enter();
        called[calledCount] = f;
        calledCount++;
        trapless.forget();
    }

    private void leave() {
        depth--;
    }

    // ---------------------------------------------------------------- FUNCTIONS

    /** Call(f, self, ..); first is the first argument, which is the target when f is called as a trap. */
    private int invoke(int f, int self, int trap, int first, int key, int v, int receiver) {
        enterFunction(f);
        int answer = UNDEFINED;
        switch (store.actOf(f)) {
            case GIVE:
                answer = store.givenBy(f);
                break;
            case READ:
                answer = readFrom(self, store.keyNamedBy(f));
                break;
            case WRITE:
                writeTo(self, store.keyNamedBy(f), first);
                break;
            case THROW:
                thrownLatest = store.givenBy(f);
                throw new NoSuchElementException("a FUNCTION threw");
            case REFLECT:
                answer = reflect(trap, first, key, v, receiver);
                break;
            default:
                reflect(trap, first, key, v, receiver);
                answer = store.givenBy(f);
                break;
        }
        leave();
        return answer;
    }

    private int readFrom(int self, int key) {
        return store.isObject(self) ? getFrom(self, key, self) : UNDEFINED;
    }

    private void writeTo(int self, int key, int v) {
        if (store.isObject(self)) {
            setOrThrow(self, key, v);
        }
    }

    private void setOrThrow(int o, int key, int v) {
        if (!setIn(o, key, v, o)) {
            throw new IllegalStateException("the property can not be set");
        }
    }

    /** What the function of Reflect that bears the trap's name does; v is the trap's argument behind the KEY, if any. */
    private int reflect(int trap, int target, int key, int v, int receiver) {
        switch (trap) {
            case TRAP_GET:
                return getFrom(target, key, receiver);
            case TRAP_SET:
                return truth(setIn(target, key, v, receiver));
            case TRAP_HAS:
                return truth(hasIn(target, key));
            case TRAP_DELETE:
                return truth(deleteFrom(target, key));
            case TRAP_DEFINE:
                return truth(reflectDefine(target, key, v));
            case TRAP_OWN:
                return reflectOwn(target, key);
            case TRAP_KEYS:
                return reflectKeys(target);
            case TRAP_GET_PROTOTYPE:
                return prototypeOf(target);
            case TRAP_SET_PROTOTYPE:
                return truth(changePrototype(target, v));
            case TRAP_IS_EXTENSIBLE:
                return truth(isExtensible(target));
            case TRAP_PREVENT_EXTENSIONS:
                return truth(preventExtensions(target));
            default:
                return UNDEFINED;
        }
    }

    private static int truth(boolean b) {
        return b ? 1 : 0;
    }

    private static boolean toBoolean(int v) {
        return v != UNDEFINED && v != 0;
    }

    private boolean reflectDefine(int target, int key, int attributes) {
        Descriptor given = descriptors.given(depth);
        readDescriptor(attributes, given);
        return defineOn(target, key, given);
    }

    private int reflectOwn(int target, int key) {
        Descriptor own = descriptors.given(depth);
        return ownOf(target, key, own) ? objectFrom(own) : UNDEFINED;
    }

    private int reflectKeys(int target) {
        int from = lists.top();
        int n = keysOf(target);
        int made = arrayFrom(from, n);
        lists.cutTo(from);
        return made;
    }

    // ---------------------------------------------------------------- descriptors as OBJECTS, lists as ARRAYS

    /** FromPropertyDescriptor. */
    private int objectFrom(Descriptor d) {
        int made = store.addOrdinary(UNDEFINED);
        if (d.holds(VALUE)) {
            putData(made, NAME_VALUE, d.value);
        }
        if (d.holds(WRITABLE)) {
            putData(made, NAME_WRITABLE, truth(d.isTrue(WRITABLE)));
        }
        if (d.holds(GET)) {
            putData(made, NAME_GET, d.getter);
        }
        if (d.holds(SET)) {
            putData(made, NAME_SET, d.setter);
        }
        if (d.holds(ENUMERABLE)) {
            putData(made, NAME_ENUMERABLE, truth(d.isTrue(ENUMERABLE)));
        }
        if (d.holds(CONFIGURABLE)) {
            putData(made, NAME_CONFIGURABLE, truth(d.isTrue(CONFIGURABLE)));
        }
        return made;
    }

    /** CreateArrayFromList, of the n KEYS that stand in the lists at from. */
    private int arrayFrom(int from, int n) {
        if (n > MOST_LISTED) {
            throw new UnsupportedOperationException("a list of more than 100");
        }
        int made = store.addArray(0);
        for (int i = 0; i < n; i++) {
            putData(made, i, FIRST_KEY_VALUE + lists.at(from + i));
        }
        return made;
    }

    private void putData(int made, int key, int v) {
        Descriptor d = descriptors.made(depth);
        d.becomeData(v);
        defineOn(made, key, d);
    }

    /** ToPropertyDescriptor. */
    private void readDescriptor(int o, Descriptor into) {
        into.clear();
        if (!store.isObject(o)) {
            throw new IllegalStateException("a descriptor is no OBJECT");
        }
        readFlag(o, NAME_ENUMERABLE, ENUMERABLE, into);
        readFlag(o, NAME_CONFIGURABLE, CONFIGURABLE, into);
        if (hasIn(o, NAME_VALUE)) {
            into.putValue(getFrom(o, NAME_VALUE, o));
        }
        readFlag(o, NAME_WRITABLE, WRITABLE, into);
        if (hasIn(o, NAME_GET)) {
            into.putGetter(getFrom(o, NAME_GET, o));
            requireCallable(into.getter);
        }
        if (hasIn(o, NAME_SET)) {
            into.putSetter(getFrom(o, NAME_SET, o));
            requireCallable(into.setter);
        }
        requireOneKind(into);
    }

    private void readFlag(int o, int name, int field, Descriptor into) {
        if (hasIn(o, name)) {
            into.putFlag(field, toBoolean(getFrom(o, name, o)));
        }
    }

    private void requireCallable(int v) {
        if (v != UNDEFINED && !store.isFunction(v)) {
            throw new IllegalStateException("get or set can not be called");
        }
    }

    private void requireOneKind(Descriptor d) {
        if (d.isAccessor() && d.isData()) {
            throw new IllegalStateException("a descriptor of both kinds");
        }
    }

    /** CreateListFromArrayLike, of KEYS alone, held to be without duplicates: pushes them, and tells how many. */
    private int pushListed(int v) {
        if (!store.isObject(v)) {
            throw new IllegalStateException("a list of keys is no OBJECT");
        }
        int from = lists.top();
        int n = toLength(getFrom(v, LENGTH, v));
        for (int i = 0; i < n; i++) {
            int next = getFrom(v, i < INDEX_KEYS ? i : FOREIGN_KEY, v);
            if (next < FIRST_KEY_VALUE) {
                throw new IllegalStateException("a list of keys holds what is no KEY");
            }
            // More than there are KEYS hold one twice in any case: what is kept tells that already.
            if (i <= KEYS) {
                lists.push(next - FIRST_KEY_VALUE);
            }
        }
        if (lists.hasTwice(from)) {
            throw new IllegalStateException("a list of keys holds one twice");
        }
        return n;
    }

    private int toLength(int v) {
        return isNumeric(v) ? toNumber(v) : 0;
    }

    /** Whether ToNumber gives a Number that is not NaN; TypeError where it gives none at all. */
    private boolean isNumeric(int v) {
        if (store.isObject(v) || v >= FIRST_KEY_VALUE + FIRST_SYMBOL) {
            throw new IllegalStateException("not to be made a Number");
        }
        return v >= 0 && v < FIRST_KEY_VALUE + INDEX_KEYS;
    }

    private static int toNumber(int v) {
        return v < NUMBERS ? v : v - FIRST_KEY_VALUE;
    }

    // ---------------------------------------------------------------- [[Get]]

    private int getFrom(int o, int key, int receiver) {
        int holder = store.holder(o, key);
        if (holder == UNDEFINED) {
            return UNDEFINED;
        }
        if (store.isProxy(holder)) {
            return proxyGet(holder, key, receiver);
        }
        int slot = store.find(holder, key);
        int first = store.valueAt(slot);
        if (!store.isAccessor(slot) || first == UNDEFINED) {
            return first;
        }
        return invoke(first, receiver, NO_TRAP, UNDEFINED, key, UNDEFINED, receiver);
    }

    /** GetMethod(the handler, the trap's name). */
    private int trapOf(int p, int name) {
        int trap = name == TRAP_GET ? getTrapOf(p) : askHandler(p, name);
        if (trap != UNDEFINED && !store.isFunction(trap)) {
            throw new IllegalStateException("a trap can not be called");
        }
        return trap;
    }

    private int askHandler(int p, int name) {
        int handler = store.handlerOf(p);
        return getFrom(handler, name, handler);
    }

    /**
     * PROXIES that are both target and handler of the next would be asked twice at each depth, 2 to the 40th times
     * in all, were it not kept which of them have no such trap: no one could wait for the call to end.
     */
    private int getTrapOf(int p) {
        if (trapless.holds(p)) {
            reach(depth + trapless.heightOf(p));
            return UNDEFINED;
        }
        int deepestBefore = deepest;
        int momentBefore = trapless.moment();
        deepest = depth;
        int trap = askHandler(p, TRAP_GET);
        if (trap == UNDEFINED && trapless.moment() == momentBefore) {
            trapless.keep(p, deepest - depth);
        }
        deepest = Math.max(deepest, deepestBefore);
        return trap;
    }

    private int proxyGet(int p, int key, int receiver) {
        enterProxy(p);
        int trap = trapOf(p, TRAP_GET);
        int target = store.targetOf(p);
        int answer;
        if (trap == UNDEFINED) {
            answer = getFrom(target, key, receiver);
        } else {
            answer = invoke(trap, store.handlerOf(p), TRAP_GET, target, key, UNDEFINED, receiver);
            checkGot(target, key, answer);
        }
        leave();
        return answer;
    }

    private void checkGot(int target, int key, int answer) {
        Descriptor own = descriptors.ofTarget(depth);
        if (!ownOf(target, key, own) || own.isTrue(CONFIGURABLE)) {
            return;
        }
        if (own.isFixedValue() && own.value != answer) {
            throw new IllegalStateException("get: the target's value is fixed");
        }
        if (own.isAccessor() && own.getter == UNDEFINED && answer != UNDEFINED) {
            throw new IllegalStateException("get: the target has no getter");
        }
    }

    // ---------------------------------------------------------------- [[Set]]

    private boolean setIn(int o, int key, int v, int receiver) {
        int holder = store.holder(o, key);
        if (holder == UNDEFINED) {
            return setOnReceiver(receiver, key, v);
        }
        if (store.isProxy(holder)) {
            return proxySet(holder, key, v, receiver);
        }
        int slot = store.find(holder, key);
        if (!store.isAccessor(slot)) {
            return store.isWritable(slot) && setOnReceiver(receiver, key, v);
        }
        int setter = store.setterAt(slot);
        if (setter == UNDEFINED) {
            return false;
        }
        invoke(setter, receiver, NO_TRAP, v, key, UNDEFINED, receiver);
        return true;
    }

    private boolean setOnReceiver(int receiver, int key, int v) {
        if (!store.isObject(receiver)) {
            return false;
        }
        Descriptor d = descriptors.ofReceiver(depth);
        if (!ownOf(receiver, key, d)) {
            d.becomeData(v);
            return defineOn(receiver, key, d);
        }
        if (d.isAccessor() || !d.isTrue(WRITABLE)) {
            return false;
        }
        d.clear();
        d.putValue(v);
        return defineOn(receiver, key, d);
    }

    private boolean proxySet(int p, int key, int v, int receiver) {
        enterProxy(p);
        int trap = trapOf(p, TRAP_SET);
        int target = store.targetOf(p);
        boolean done;
        if (trap == UNDEFINED) {
            done = setIn(target, key, v, receiver);
        } else {
            done = toBoolean(invoke(trap, store.handlerOf(p), TRAP_SET, target, key, v, receiver));
            if (done) {
                checkSet(target, key, v);
            }
        }
        leave();
        return done;
    }

    private void checkSet(int target, int key, int v) {
        Descriptor own = descriptors.ofTarget(depth);
        if (!ownOf(target, key, own) || own.isTrue(CONFIGURABLE)) {
            return;
        }
        if (own.isFixedValue() && own.value != v) {
            throw new IllegalStateException("set: the target's value is fixed");
        }
        if (own.isAccessor() && own.setter == UNDEFINED) {
            throw new IllegalStateException("set: the target has no setter");
        }
    }

    // ---------------------------------------------------------------- [[HasProperty]]

    private boolean hasIn(int o, int key) {
        int holder = store.holder(o, key);
        if (store.isProxy(holder)) {
            return proxyHas(holder, key);
        }
        return holder != UNDEFINED;
    }

    private boolean proxyHas(int p, int key) {
        enterProxy(p);
        int trap = trapOf(p, TRAP_HAS);
        int target = store.targetOf(p);
        boolean there;
        if (trap == UNDEFINED) {
            there = hasIn(target, key);
        } else {
            there = toBoolean(invoke(trap, store.handlerOf(p), TRAP_HAS, target, key, UNDEFINED, UNDEFINED));
            if (!there) {
                checkHidden(target, key);
            }
        }
        leave();
        return there;
    }

    /** A property of the target may be told away only if it could be removed and did not come back. */
    private void checkHidden(int target, int key) {
        Descriptor own = descriptors.ofTarget(depth);
        if (ownOf(target, key, own)) {
            requireRemovable(target, own);
        }
    }

    private void requireRemovable(int target, Descriptor own) {
        if (!own.isTrue(CONFIGURABLE)) {
            throw new IllegalStateException("the target's property is not configurable");
        }
        if (!isExtensible(target)) {
            throw new IllegalStateException("the target is not extensible");
        }
    }

    // ---------------------------------------------------------------- [[Delete]]

    private boolean deleteFrom(int o, int key) {
        if (store.isProxy(o)) {
            return proxyDelete(o, key);
        }
        int slot = store.find(o, key);
        if (slot == Store.NO_SLOT) {
            return true;
        }
        if (!store.isConfigurable(slot)) {
            return false;
        }
        store.erase(o, key);
        trapless.forget();
        return true;
    }

    private boolean proxyDelete(int p, int key) {
        enterProxy(p);
        int trap = trapOf(p, TRAP_DELETE);
        int target = store.targetOf(p);
        boolean done;
        if (trap == UNDEFINED) {
            done = deleteFrom(target, key);
        } else {
            done = toBoolean(invoke(trap, store.handlerOf(p), TRAP_DELETE, target, key, UNDEFINED, UNDEFINED));
            if (done) {
                checkHidden(target, key);
            }
        }
        leave();
        return done;
    }

    // ---------------------------------------------------------------- [[DefineOwnProperty]]

    private boolean defineOn(int o, int key, Descriptor d) {
        if (store.isProxy(o)) {
            return proxyDefine(o, key, d);
        }
        if (store.isArray(o) && key <= LENGTH) {
            return key == LENGTH ? defineLength(o, d) : defineElement(o, key, d);
        }
        return ordinaryDefine(o, key, d);
    }

    private boolean ordinaryDefine(int o, int key, Descriptor d) {
        int slot = store.find(o, key);
        store.describe(slot, current);
        if (!d.fits(store.isOpen(o), current)) {
            return false;
        }
        store.write(slot == Store.NO_SLOT ? store.append(o, key) : slot, d);
        trapless.forget();
        return true;
    }

    private boolean defineElement(int a, int index, Descriptor d) {
        int slot = store.find(a, LENGTH);
        boolean grows = index >= store.valueAt(slot);
        if (grows && !store.isWritable(slot)) {
            return false;
        }
        if (!ordinaryDefine(a, index, d)) {
            return false;
        }
        if (grows) {
            store.putValueAt(slot, index + 1);
        }
        return true;
    }

    /** ArraySetLength. */
    private boolean defineLength(int a, Descriptor given) {
        if (!given.holds(VALUE)) {
            return ordinaryDefine(a, LENGTH, given);
        }
        if (!isNumeric(given.value)) {
            throw new ArithmeticException("no length of an ARRAY");
        }
        int length = toNumber(given.value);
        Descriptor d = descriptors.ofLength(depth);
        d.copy(given);
        d.putValue(length);
        if (!ordinaryDefine(a, LENGTH, d)) {
            return false;
        }
        int left = store.cutElements(a, length);
        // Put past the rules, for an element that stays is told by the length even if that is read-only by now.
        store.putValueAt(store.find(a, LENGTH), left);
        return left == length;
    }

    private boolean proxyDefine(int p, int key, Descriptor d) {
        enterProxy(p);
        int trap = trapOf(p, TRAP_DEFINE);
        int target = store.targetOf(p);
        boolean done;
        if (trap == UNDEFINED) {
            done = defineOn(target, key, d);
        } else {
            int attributes = objectFrom(d);
            done = toBoolean(invoke(trap, store.handlerOf(p), TRAP_DEFINE, target, key, attributes, UNDEFINED));
            if (done) {
                checkDefined(target, key, d);
            }
        }
        leave();
        return done;
    }

    private void checkDefined(int target, int key, Descriptor d) {
        Descriptor own = descriptors.ofTarget(depth);
        boolean there = ownOf(target, key, own);
        boolean extensible = isExtensible(target);
        if (!d.fits(extensible, own)) {
            throw new IllegalStateException("defineProperty: it does not fit the target");
        }
        boolean fixes = d.holds(CONFIGURABLE) && !d.isTrue(CONFIGURABLE);
        if (fixes && (!there || own.isTrue(CONFIGURABLE))) {
            throw new IllegalStateException("defineProperty: the target's is configurable, or there is none");
        }
        boolean locks = d.holds(WRITABLE) && !d.isTrue(WRITABLE);
        if (locks && there && own.isData() && !own.isTrue(CONFIGURABLE) && own.isTrue(WRITABLE)) {
            throw new IllegalStateException("defineProperty: the target's is writable");
        }
    }

    // ---------------------------------------------------------------- [[GetOwnProperty]]

    private boolean ownOf(int o, int key, Descriptor into) {
        if (store.isProxy(o)) {
            return proxyOwn(o, key, into);
        }
        return store.describe(store.find(o, key), into);
    }

    private boolean proxyOwn(int p, int key, Descriptor into) {
        enterProxy(p);
        int trap = trapOf(p, TRAP_OWN);
        int target = store.targetOf(p);
        boolean there;
        if (trap == UNDEFINED) {
            there = ownOf(target, key, into);
        } else {
            int told = invoke(trap, store.handlerOf(p), TRAP_OWN, target, key, UNDEFINED, UNDEFINED);
            there = checkOwn(target, key, told, into);
        }
        leave();
        return there;
    }

    private boolean checkOwn(int target, int key, int told, Descriptor into) {
        if (told != UNDEFINED && !store.isObject(told)) {
            throw new IllegalStateException("getOwnPropertyDescriptor: neither an OBJECT nor undefined");
        }
        Descriptor own = descriptors.ofTarget(depth);
        boolean there = ownOf(target, key, own);
        if (told == UNDEFINED) {
            if (there) {
                requireRemovable(target, own);
            }
            into.clear();
            return false;
        }
        boolean extensible = isExtensible(target);
        readDescriptor(told, into);
        into.complete();
        if (!into.fits(extensible, own)) {
            throw new IllegalStateException("getOwnPropertyDescriptor: it does not fit the target");
        }
        if (!into.isTrue(CONFIGURABLE)) {
            checkFixed(there, own, into);
        }
        return true;
    }

    private void checkFixed(boolean there, Descriptor own, Descriptor told) {
        if (!there || own.isTrue(CONFIGURABLE)) {
            throw new IllegalStateException("getOwnPropertyDescriptor: the target's is configurable, or there is none");
        }
        if (!told.isTrue(WRITABLE) && own.isTrue(WRITABLE)) {
            throw new IllegalStateException("getOwnPropertyDescriptor: the target's is writable");
        }
    }

    // ---------------------------------------------------------------- [[OwnPropertyKeys]]

    /** Pushes the KEYS on the lists, and tells how many. */
    private int keysOf(int o) {
        if (store.isProxy(o)) {
            return proxyKeys(o);
        }
        return store.pushKeys(o, lists);
    }

    private int proxyKeys(int p) {
        enterProxy(p);
        int trap = trapOf(p, TRAP_KEYS);
        int target = store.targetOf(p);
        int n;
        if (trap == UNDEFINED) {
            n = keysOf(target);
        } else {
            int told = invoke(trap, store.handlerOf(p), TRAP_KEYS, target, UNDEFINED, UNDEFINED, UNDEFINED);
            int from = lists.top();
            n = pushListed(told);
            checkKeys(target, from, n);
            lists.cutTo(from + n);
        }
        leave();
        return n;
    }

    /** The target's properties are all looked at before the first of them is missed. */
    private void checkKeys(int target, int from, int n) {
        Descriptor own = descriptors.ofTarget(depth);
        boolean extensible = isExtensible(target);
        int targetFrom = lists.top();
        int targetCount = keysOf(target);
        boolean missed = false;
        for (int i = 0; i < targetCount; i++) {
            int key = lists.at(targetFrom + i);
            boolean fixed = ownOf(target, key, own) && !own.isTrue(CONFIGURABLE);
            if ((fixed || !extensible) && !lists.holds(from, n, key)) {
                missed = true;
            }
        }
        if (missed) {
            throw new IllegalStateException("ownKeys: a key of the target is missed");
        }
        if (!extensible && n != targetCount) {
            throw new IllegalStateException("ownKeys: the target is not extensible");
        }
    }

    // ---------------------------------------------------------------- [[GetPrototypeOf]], [[SetPrototypeOf]]

    private int prototypeOf(int o) {
        return store.isProxy(o) ? proxyPrototype(o) : store.parentOf(o);
    }

    private int proxyPrototype(int p) {
        enterProxy(p);
        int trap = trapOf(p, TRAP_GET_PROTOTYPE);
        int target = store.targetOf(p);
        int answer;
        if (trap == UNDEFINED) {
            answer = prototypeOf(target);
        } else {
            answer = invoke(trap, store.handlerOf(p), TRAP_GET_PROTOTYPE, target, UNDEFINED, UNDEFINED, UNDEFINED);
            checkPrototype(target, answer);
        }
        leave();
        return answer;
    }

    private void checkPrototype(int target, int answer) {
        if (answer != UNDEFINED && !store.isObject(answer)) {
            throw new IllegalStateException("getPrototypeOf: neither an OBJECT nor null");
        }
        requireSamePrototype(target, answer);
    }

    private void requireSamePrototype(int target, int v) {
        if (!isExtensible(target) && prototypeOf(target) != v) {
            throw new IllegalStateException("the target is not extensible and has another prototype");
        }
    }

    private boolean changePrototype(int o, int v) {
        if (store.isProxy(o)) {
            return proxyChangePrototype(o, v);
        }
        if (store.parentOf(o) == v) {
            return true;
        }
        if (!store.isOpen(o) || store.descendsFrom(v, o)) {
            return false;
        }
        store.putParent(o, v);
        trapless.forget();
        return true;
    }

    private boolean proxyChangePrototype(int p, int v) {
        enterProxy(p);
        int trap = trapOf(p, TRAP_SET_PROTOTYPE);
        int target = store.targetOf(p);
        boolean done;
        if (trap == UNDEFINED) {
            done = changePrototype(target, v);
        } else {
            done = toBoolean(invoke(trap, store.handlerOf(p), TRAP_SET_PROTOTYPE, target, UNDEFINED, v, UNDEFINED));
            if (done) {
                requireSamePrototype(target, v);
            }
        }
        leave();
        return done;
    }

    // ---------------------------------------------------------------- [[IsExtensible]], [[PreventExtensions]]

    private boolean isExtensible(int o) {
        return store.isProxy(o) ? proxyIsExtensible(o) : store.isOpen(o);
    }

    private boolean proxyIsExtensible(int p) {
        enterProxy(p);
        int trap = trapOf(p, TRAP_IS_EXTENSIBLE);
        int target = store.targetOf(p);
        boolean answer;
        if (trap == UNDEFINED) {
            answer = isExtensible(target);
        } else {
            answer = toBoolean(invoke(trap, store.handlerOf(p), TRAP_IS_EXTENSIBLE, target, UNDEFINED, UNDEFINED, UNDEFINED));
            if (isExtensible(target) != answer) {
                throw new IllegalStateException("isExtensible: the target tells another thing");
            }
        }
        leave();
        return answer;
    }

    private boolean preventExtensions(int o) {
        if (store.isProxy(o)) {
            return proxyPreventExtensions(o);
        }
        store.close(o);
        return true;
    }

    private boolean proxyPreventExtensions(int p) {
        enterProxy(p);
        int trap = trapOf(p, TRAP_PREVENT_EXTENSIONS);
        int target = store.targetOf(p);
        boolean done;
        if (trap == UNDEFINED) {
            done = preventExtensions(target);
        } else {
            done = toBoolean(invoke(trap, store.handlerOf(p), TRAP_PREVENT_EXTENSIONS, target, UNDEFINED, UNDEFINED, UNDEFINED));
            if (done && isExtensible(target)) {
                throw new IllegalStateException("preventExtensions: the target is extensible");
            }
        }
        leave();
        return done;
    }

    // ---------------------------------------------------------------- integrity levels, Object.assign

    private boolean setLevel(int o, boolean frozen) {
        if (!preventExtensions(o)) {
            return false;
        }
        Descriptor d = descriptors.given(depth);
        int from = lists.top();
        int n = keysOf(o);
        for (int i = 0; i < n; i++) {
            int key = lists.at(from + i);
            if (!frozen || ownOf(o, key, d)) {
                boolean locks = frozen && d.isData();
                d.clear();
                d.putFlag(CONFIGURABLE, false);
                if (locks) {
                    d.putFlag(WRITABLE, false);
                }
                if (!defineOn(o, key, d)) {
                    throw new IllegalStateException("the property can not be defined");
                }
            }
        }
        return true;
    }

    private boolean testLevel(int o, boolean frozen) {
        if (isExtensible(o)) {
            return false;
        }
        Descriptor own = descriptors.given(depth);
        int from = lists.top();
        int n = keysOf(o);
        for (int i = 0; i < n; i++) {
            if (ownOf(o, lists.at(from + i), own)) {
                boolean loose = frozen && own.isData() && own.isTrue(WRITABLE);
                if (loose || own.isTrue(CONFIGURABLE)) {
                    return false;
                }
            }
        }
        return true;
    }

    private int assignAll(int to, int source) {
        Descriptor own = descriptors.given(depth);
        int from = lists.top();
        int n = keysOf(source);
        int done = 0;
        for (int i = 0; i < n; i++) {
            int key = lists.at(from + i);
            if (ownOf(source, key, own) && own.isTrue(ENUMERABLE)) {
                setOrThrow(to, key, getFrom(source, key, source));
                done++;
            }
        }
        return done;
    }

    // ---------------------------------------------------------------- classes inside

    /** A Property Descriptor; without any field it stands for undefined, where a property is asked for. */
    private static final class Descriptor {
        private int fields;
        private int truths;
        private int value;
        private int getter;
        private int setter;

        void clear() {
            fields = 0;
            truths = 0;
            value = UNDEFINED;
            getter = UNDEFINED;
            setter = UNDEFINED;
        }

        void copy(Descriptor other) {
            fields = other.fields;
            truths = other.truths;
            value = other.value;
            getter = other.getter;
            setter = other.setter;
        }

        /** By the bits of define; the three bits above the fields tell which flags are true. */
        void readBits(int bits, int a, int b) {
            clear();
            fields = bits & ALL_FIELDS;
            if (holds(VALUE)) {
                value = a;
            }
            if (holds(GET)) {
                getter = a;
            }
            if (holds(SET)) {
                setter = b;
            }
            if (holds(WRITABLE)) {
                putFlag(WRITABLE, (bits & 64) != 0);
            }
            if (holds(ENUMERABLE)) {
                putFlag(ENUMERABLE, (bits & 128) != 0);
            }
            if (holds(CONFIGURABLE)) {
                putFlag(CONFIGURABLE, (bits & 256) != 0);
            }
        }

        void becomeData(int v) {
            clear();
            putValue(v);
            fields |= ALL_TRUE;
            truths = ALL_TRUE;
        }

        void putValue(int v) {
            fields |= VALUE;
            value = v;
        }

        void putGetter(int v) {
            fields |= GET;
            getter = v;
        }

        void putSetter(int v) {
            fields |= SET;
            setter = v;
        }

        void putFlag(int field, boolean b) {
            fields |= field;
            truths = b ? truths | field : truths & ~field;
        }

        boolean holds(int field) {
            return (fields & field) != 0;
        }

        boolean isTrue(int field) {
            return (truths & field) != 0;
        }

        boolean isAccessor() {
            return (fields & (GET | SET)) != 0;
        }

        boolean isData() {
            return (fields & (VALUE | WRITABLE)) != 0;
        }

        boolean isFixedValue() {
            return isData() && !isTrue(WRITABLE);
        }

        /** CompletePropertyDescriptor: what is not held is undefined or false already. */
        void complete() {
            fields |= isAccessor() ? GET | SET : VALUE | WRITABLE;
            fields |= ENUMERABLE | CONFIGURABLE;
        }

        /** IsCompatiblePropertyDescriptor, for a current property that may be undefined. */
        boolean fits(boolean extensible, Descriptor current) {
            if (current.fields == 0) {
                return extensible;
            }
            if (current.isTrue(CONFIGURABLE)) {
                return true;
            }
            if (isTrue(CONFIGURABLE)) {
                return false;
            }
            if (holds(ENUMERABLE) && isTrue(ENUMERABLE) != current.isTrue(ENUMERABLE)) {
                return false;
            }
            return current.isAccessor() ? fitsAccessor(current) : fitsData(current);
        }

        private boolean fitsAccessor(Descriptor current) {
            if (isData()) {
                return false;
            }
            if (holds(GET) && getter != current.getter) {
                return false;
            }
            return !holds(SET) || setter == current.setter;
        }

        private boolean fitsData(Descriptor current) {
            if (isAccessor()) {
                return false;
            }
            if (current.isTrue(WRITABLE)) {
                return true;
            }
            return !isTrue(WRITABLE) && (!holds(VALUE) || value == current.value);
        }

        int tell(int what) {
            switch (what) {
                case 0:
                    return (isTrue(WRITABLE) ? 1 : 0) + (isTrue(ENUMERABLE) ? 2 : 0)
                            + (isTrue(CONFIGURABLE) ? 4 : 0) + (isAccessor() ? 8 : 0);
                case 1:
                    return isAccessor() ? getter : value;
                default:
                    return setter;
            }
        }
    }

    /**
     * The descriptors that stand while methods run in one another, made once. Each depth has its own five,
     * and between two depths no method that uses one of them stands twice.
     */
    private static final class Descriptors {
        private static final int EACH = 5;

        private final Descriptor[] row = new Descriptor[(MOST_UNDER_WAY + 1) * EACH];

        Descriptors() {
            for (int i = 0; i < row.length; i++) {
                row[i] = new Descriptor();
            }
        }

        /** What a call of the face, or a function of Reflect, was given or asks for. */
        Descriptor given(int depth) {
            return at(depth, 0);
        }

        /** What a PROXY asks of its target. */
        Descriptor ofTarget(int depth) {
            return at(depth, 1);
        }

        /** What [[Set]] asks of its receiver, and defines on it. */
        Descriptor ofReceiver(int depth) {
            return at(depth, 2);
        }

        /** What is put into an OBJECT that the rules make. */
        Descriptor made(int depth) {
            return at(depth, 3);
        }

        /** What an ARRAY's length is set by. */
        Descriptor ofLength(int depth) {
            return at(depth, 4);
        }

        private Descriptor at(int depth, int which) {
            int i = depth * EACH + which;
            return i >= 0 && i < row.length ? row[i] : new Descriptor();
        }
    }

    /** Lists of KEYS on top of one another, in one row: each PROXY on the way holds one while the next is asked. */
    private static final class KeyLists {
        /** A list with one KEY too many shows already that it holds one twice; the last one is no PROXY's. */
        private static final int ROOM = (MOST_UNDER_WAY + 1) * (KEYS + 1);

        private final int[] row = new int[ROOM];
        private final int[] seen = new int[KEYS];
        private int used;

        int top() {
            return used;
        }

        void push(int key) {
            if (used < row.length) {
                row[used] = key;
                used++;
            }
        }

        void cutTo(int n) {
            if (n >= 0 && n <= used) {
                used = n;
            }
        }

        int at(int i) {
            return i >= 0 && i < used && i < row.length ? row[i] : FOREIGN_KEY;
        }

        boolean holds(int from, int n, int key) {
            for (int i = 0; i < n; i++) {
                if (at(from + i) == key) {
                    return true;
                }
            }
            return false;
        }

        boolean hasTwice(int from) {
            Arrays.fill(seen, 0);
            for (int i = from; i < used; i++) {
                int key = at(i);
                if (key < 0 || key >= seen.length || seen[key] != 0) {
                    return true;
                }
                seen[key] = 1;
            }
            return false;
        }

        int copyTo(int[] into, int from, int n) {
            int copied = 0;
            for (int i = 0; i < n && i < into.length; i++) {
                into[i] = at(from + i);
                copied++;
            }
            return copied;
        }
    }

    /** The PROXIES whose handlers gave no "get", till a FUNCTION is called or a property or a prototype changes. */
    private static final class Trapless {
        /** How many were under way in one another while the handler was asked. */
        private final int[] heights = new int[MOST_OBJECTS];
        private final int[] moments = new int[MOST_OBJECTS];
        private int moment = 1;

        int moment() {
            return moment;
        }

        void forget() {
            moment++;
        }

        void keep(int p, int height) {
            int i = FIRST_OBJECT - p;
            if (i >= 0 && i < MOST_OBJECTS) {
                heights[i] = height;
                moments[i] = moment;
            }
        }

        boolean holds(int p) {
            return at(p, moments) == moment;
        }

        int heightOf(int p) {
            return at(p, heights);
        }

        private static int at(int p, int[] row) {
            int i = FIRST_OBJECT - p;
            return i >= 0 && i < row.length ? row[i] : 0;
        }
    }

    /** All OBJECTS and their properties, without the rules: rows of numbers that are made once. */
    private static final class Store {
        static final int NO_SLOT = -1;

        private static final int NONE = 0;
        private static final int ORDINARY = 1;
        private static final int ARRAY = 2;
        private static final int FUNCTION = 3;
        private static final int PROXY = 4;

        private final int[] kinds = new int[MOST_OBJECTS];
        private final int[] parents = new int[MOST_OBJECTS];
        private final boolean[] opens = new boolean[MOST_OBJECTS];
        private final int[] firstSlots = new int[MOST_OBJECTS];
        /** A PROXY's target, a FUNCTION's act. */
        private final int[] firstParts = new int[MOST_OBJECTS];
        /** A PROXY's handler, a FUNCTION's KEY. */
        private final int[] secondParts = new int[MOST_OBJECTS];
        /** Whether a PROXY is revoked, a FUNCTION's VALUE. */
        private final int[] thirdParts = new int[MOST_OBJECTS];
        private int objects;

        private final int[] slotKeys = new int[MOST_PROPERTIES];
        /** A value, or a getter. */
        private final int[] slotValues = new int[MOST_PROPERTIES];
        private final int[] slotSetters = new int[MOST_PROPERTIES];
        /** Which flags are true; GET for an accessor. */
        private final int[] slotFlags = new int[MOST_PROPERTIES];
        /** The next property of the same OBJECT in the order of [[OwnPropertyKeys]], or the next free one. */
        private final int[] slotNexts = new int[MOST_PROPERTIES];
        private int firstFree;

        Store() {
            for (int i = 0; i < slotNexts.length; i++) {
                slotNexts[i] = i + 1 < slotNexts.length ? i + 1 : NO_SLOT;
            }
        }

        int size() {
            return objects;
        }

        // ------------------------------------------------------------ OBJECTS

        int addOrdinary(int parent) {
            return add(ORDINARY, parent);
        }

        int addArray(int length) {
            if (firstFree == NO_SLOT) {
                throw new UnsupportedOperationException("no room for the ARRAY's length");
            }
            int made = add(ARRAY, UNDEFINED);
            int slot = append(made, LENGTH);
            putValueAt(slot, length);
            putFlagsAt(slot, WRITABLE);
            return made;
        }

        int addFunction(int act, int key, int v) {
            int made = add(FUNCTION, UNDEFINED);
            putParts(made, act, key, v);
            return made;
        }

        int addProxy(int target, int handler) {
            int made = add(PROXY, UNDEFINED);
            putParts(made, target, handler, 0);
            return made;
        }

        private int add(int kind, int parent) {
            int i = objects;
            if (i >= MOST_OBJECTS || i >= kinds.length) {
                throw new UnsupportedOperationException("more than 600 OBJECTS");
            }
            kinds[i] = kind;
            parents[i] = parent;
            opens[i] = true;
            firstSlots[i] = NO_SLOT;
            objects++;
            return FIRST_OBJECT - i;
        }

        private void putParts(int o, int first, int second, int third) {
            int i = rowOf(o);
            if (i >= 0) {
                firstParts[i] = first;
                secondParts[i] = second;
                thirdParts[i] = third;
            }
        }

        /** -1 for a VALUE that is no OBJECT. */
        private int rowOf(int v) {
            int i = FIRST_OBJECT - v;
            return i >= 0 && i < objects && i < MOST_OBJECTS ? i : -1;
        }

        private int kindOf(int v) {
            int i = rowOf(v);
            return i >= 0 ? kinds[i] : NONE;
        }

        boolean isObject(int v) {
            return rowOf(v) >= 0;
        }

        boolean isArray(int v) {
            return kindOf(v) == ARRAY;
        }

        boolean isFunction(int v) {
            return kindOf(v) == FUNCTION;
        }

        boolean isProxy(int v) {
            return kindOf(v) == PROXY;
        }

        private int partOf(int o, int[] parts) {
            int i = rowOf(o);
            return i >= 0 && i < parts.length ? parts[i] : UNDEFINED;
        }

        int actOf(int f) {
            return partOf(f, firstParts);
        }

        int keyNamedBy(int f) {
            return partOf(f, secondParts);
        }

        int givenBy(int f) {
            return partOf(f, thirdParts);
        }

        int targetOf(int p) {
            return partOf(p, firstParts);
        }

        int handlerOf(int p) {
            return partOf(p, secondParts);
        }

        boolean isRevoked(int p) {
            return partOf(p, thirdParts) != 0;
        }

        void markRevoked(int p) {
            int i = rowOf(p);
            if (i >= 0) {
                thirdParts[i] = 1;
            }
        }

        int parentOf(int o) {
            return partOf(o, parents);
        }

        void putParent(int o, int v) {
            int i = rowOf(o);
            if (i >= 0) {
                parents[i] = v;
            }
        }

        boolean isOpen(int o) {
            int i = rowOf(o);
            return i >= 0 && opens[i];
        }

        void close(int o) {
            int i = rowOf(o);
            if (i >= 0) {
                opens[i] = false;
            }
        }

        /** Whether o is v or above it; what stands above a PROXY is not known here. */
        boolean descendsFrom(int v, int o) {
            int p = v;
            for (int i = 0; i < MOST_OBJECTS && isObject(p); i++) {
                if (p == o) {
                    return true;
                }
                if (isProxy(p)) {
                    return false;
                }
                p = parentOf(p);
            }
            return false;
        }

        /** The first from o upwards that has the property or, being a PROXY, must be asked itself; UNDEFINED if none. */
        int holder(int o, int key) {
            int p = o;
            for (int i = 0; i < MOST_OBJECTS && isObject(p); i++) {
                if (isProxy(p) || find(p, key) != NO_SLOT) {
                    return p;
                }
                p = parentOf(p);
            }
            return UNDEFINED;
        }

        // ------------------------------------------------------------ properties

        private int firstSlotOf(int o) {
            int i = rowOf(o);
            return i >= 0 ? firstSlots[i] : NO_SLOT;
        }

        private boolean isSlot(int slot) {
            return slot >= 0 && slot < MOST_PROPERTIES;
        }

        private int nextOf(int slot) {
            return isSlot(slot) ? slotNexts[slot] : NO_SLOT;
        }

        private int flagsAt(int slot) {
            return isSlot(slot) ? slotFlags[slot] : 0;
        }

        int valueAt(int slot) {
            return isSlot(slot) ? slotValues[slot] : UNDEFINED;
        }

        int setterAt(int slot) {
            return isSlot(slot) ? slotSetters[slot] : UNDEFINED;
        }

        boolean isAccessor(int slot) {
            return (flagsAt(slot) & GET) != 0;
        }

        boolean isWritable(int slot) {
            return (flagsAt(slot) & WRITABLE) != 0;
        }

        boolean isConfigurable(int slot) {
            return (flagsAt(slot) & CONFIGURABLE) != 0;
        }

        void putValueAt(int slot, int v) {
            if (isSlot(slot)) {
                slotValues[slot] = v;
            }
        }

        private void putFlagsAt(int slot, int flags) {
            if (isSlot(slot)) {
                slotFlags[slot] = flags;
            }
        }

        int find(int o, int key) {
            int slot = firstSlotOf(o);
            for (int i = 0; i < KEYS && slot >= 0 && slot < MOST_PROPERTIES; i++) {
                if (slotKeys[slot] == key) {
                    return slot;
                }
                slot = slotNexts[slot];
            }
            return NO_SLOT;
        }

        /** The last property that stands before a new one with this KEY, in the row that begins at first. */
        private int slotBefore(int first, int key) {
            int before = NO_SLOT;
            int slot = first;
            for (int i = 0; i < KEYS && slot >= 0 && slot < MOST_PROPERTIES; i++) {
                if (standsBehind(slotKeys[slot], key)) {
                    return before;
                }
                before = slot;
                slot = slotNexts[slot];
            }
            return before;
        }

        /** Indices stand in ascending order, Strings behind them and Symbols behind those as they came. */
        private static boolean standsBehind(int there, int fresh) {
            if (fresh < INDEX_KEYS) {
                return there > fresh;
            }
            return fresh < FIRST_SYMBOL && there >= FIRST_SYMBOL;
        }

        /** A new property, as yet undefined and without a true flag: its slot. */
        int append(int o, int key) {
            int slot = firstFree;
            if (!isSlot(slot)) {
                throw new UnsupportedOperationException("more than 5,999 properties");
            }
            firstFree = slotNexts[slot];
            slotKeys[slot] = key;
            slotValues[slot] = UNDEFINED;
            slotSetters[slot] = UNDEFINED;
            slotFlags[slot] = 0;
            int first = firstSlotOf(o);
            int before = slotBefore(first, key);
            slotNexts[slot] = before == NO_SLOT ? first : nextOf(before);
            link(o, before, slot);
            return slot;
        }

        private void link(int o, int before, int slot) {
            int i = rowOf(o);
            if (isSlot(before)) {
                slotNexts[before] = slot;
            } else if (i >= 0) {
                firstSlots[i] = slot;
            }
        }

        void erase(int o, int key) {
            int before = NO_SLOT;
            int slot = firstSlotOf(o);
            for (int i = 0; i < KEYS && isSlot(slot) && slotKeys[slot] != key; i++) {
                before = slot;
                slot = slotNexts[slot];
            }
            if (isSlot(slot)) {
                link(o, before, slotNexts[slot]);
                slotNexts[slot] = firstFree;
                firstFree = slot;
            }
        }

        /** Deletes the elements from length upwards, the last one first, till one stays: the length that is left. */
        int cutElements(int a, int length) {
            for (int index = INDEX_KEYS - 1; index >= length; index--) {
                int slot = find(a, index);
                if (slot != NO_SLOT) {
                    if (!isConfigurable(slot)) {
                        return index + 1;
                    }
                    erase(a, index);
                }
            }
            return length;
        }

        boolean describe(int slot, Descriptor into) {
            into.clear();
            if (!isSlot(slot)) {
                return false;
            }
            into.truths = slotFlags[slot] & ALL_TRUE;
            if ((slotFlags[slot] & GET) != 0) {
                into.putGetter(slotValues[slot]);
                into.putSetter(slotSetters[slot]);
            } else {
                into.putValue(slotValues[slot]);
            }
            into.complete();
            return true;
        }

        /** Puts what the descriptor holds; a change of kind leaves the other fields undefined or false. */
        void write(int slot, Descriptor d) {
            if (!isSlot(slot)) {
                return;
            }
            boolean wasAccessor = (slotFlags[slot] & GET) != 0;
            boolean changesKind = wasAccessor ? d.isData() : d.isAccessor();
            if (changesKind) {
                slotFlags[slot] = (slotFlags[slot] ^ GET) & ~WRITABLE;
                slotValues[slot] = UNDEFINED;
                slotSetters[slot] = UNDEFINED;
            }
            if (d.holds(VALUE)) {
                slotValues[slot] = d.value;
            }
            if (d.holds(GET)) {
                slotValues[slot] = d.getter;
            }
            if (d.holds(SET)) {
                slotSetters[slot] = d.setter;
            }
            int told = d.fields & ALL_TRUE;
            slotFlags[slot] = slotFlags[slot] & ~told | d.truths & told;
        }

        int pushKeys(int o, KeyLists lists) {
            int n = 0;
            int slot = firstSlotOf(o);
            for (int i = 0; i < KEYS && isSlot(slot); i++) {
                lists.push(slotKeys[slot]);
                n++;
                slot = slotNexts[slot];
            }
            return n;
        }
    }
}
