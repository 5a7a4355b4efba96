/** Counts what is not as due, prints it, and ends the test with exit code 1 if there was any. */
final class Check {
    interface Call {
        Object run();
    }

    private int done;
    private int wrong;

    void is(long due, long got, String what) {
        done++;
        if (got != due) {
            wrong++;
            System.out.println(what + ": answered " + got + ", due is " + due);
        }
    }

    void yes(boolean got, String what) {
        is(1, got ? 1 : 0, what);
    }

    void no(boolean got, String what) {
        is(0, got ? 1 : 0, what);
    }

    /** Two texts of State: what stays as it was. */
    void same(String due, String got, String what) {
        done++;
        if (!got.equals(due)) {
            wrong++;
            System.out.println(what + ": shows\n  " + got + "\n  due is\n  " + due);
        }
    }

    /** Whatever the call answers, its arguments are not refused. */
    void taken(Call call, String what) {
        done++;
        try {
            call.run();
        } catch (IllegalArgumentException e) {
            wrong++;
            System.out.println(what + ": was refused");
        } catch (RuntimeException e) {
            return;
        }
    }

    void outside(Call call, String what) {
        fails(IndexOutOfBoundsException.class, call, what);
    }

    void illegal(Call call, String what) {
        fails(IllegalArgumentException.class, call, what);
    }

    void typeError(Call call, String what) {
        fails(IllegalStateException.class, call, what);
    }

    void rangeError(Call call, String what) {
        fails(ArithmeticException.class, call, what);
    }

    void thrown(Call call, String what) {
        fails(java.util.NoSuchElementException.class, call, what);
    }

    void full(Call call, String what) {
        fails(UnsupportedOperationException.class, call, what);
    }

    void fails(Class<? extends RuntimeException> due, Call call, String what) {
        done++;
        String got;
        try {
            got = "answered " + call.run();
        } catch (RuntimeException e) {
            if (e.getClass() == due) {
                return;
            }
            got = "threw " + e.getClass().getSimpleName();
        }
        wrong++;
        System.out.println(what + ": " + got + ", due is " + due.getSimpleName());
    }

    /** The FUNCTIONS of the latest call, in their order. */
    void called(ObjectRules x, String what, int... due) {
        is(due.length, x.count(1), what + ", how many were called");
        for (int i = 0; i < due.length; i++) {
            is(due[i], x.call(i), what + ", call(" + i + ")");
        }
        is(-1, x.call(due.length), what + ", call behind the last");
    }

    /** The KEYS of o, by keys and key. */
    void keys(ObjectRules x, int o, String what, int... due) {
        is(due.length, x.keys(o, true), what + ", how many keys");
        is(due.length, x.count(2), what + ", how many THE KEYS are");
        for (int i = 0; i < due.length && i < x.count(2); i++) {
            is(due[i], x.key(i), what + ", key(" + i + ")");
        }
    }

    /** A property with a value: its flags by the bits of about, and its value. */
    void data(ObjectRules x, int o, int key, int flags, int value, String what) {
        is(flags, x.about(o, key, 0), what + ", flags");
        is(value, x.about(o, key, 1), what + ", value");
        is(-1, x.about(o, key, 2), what + ", no set");
    }

    void end() {
        if (done == 0 || wrong > 0) {
            System.out.println(wrong + " of " + done + " are not as due");
            System.exit(1);
        }
    }
}
