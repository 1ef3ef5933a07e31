/** Counts and prints what is not as it is due. */
final class Checks {
    /** A call that is expected to be refused. */
    interface Call {
        void make();
    }

    private int wrong = 0;
    private int made = 0;

    void same(String what, long got, long due) {
        made++;
        if (got != due) {
            tell(what + " answered " + got + ", due is " + due);
        }
    }

    void sameDouble(String what, double got, double due) {
        made++;
        if (Double.compare(got, due) != 0) {
            tell(what + " answered " + got + ", due is " + due);
        }
    }

    void holds(String what, boolean isSo) {
        made++;
        if (!isSo) {
            tell(what + " does not hold");
        }
    }

    /** The call must throw just this class (no subclass of it) and leave the object as it was. */
    void refused(LoopJoiner joiner, String what, Class<? extends RuntimeException> due, Call call) {
        made++;
        long before = joiner.digest();
        Class<?> got = null;
        try {
            call.make();
        } catch (RuntimeException thrown) {
            got = thrown.getClass();
        }
        if (got != due) {
            tell(what + " threw " + got + ", due is " + due);
        }
        if (joiner.digest() != before) {
            tell(what + " threw, but changed something");
        }
    }

    int countMade() {
        return made;
    }

    private void tell(String line) {
        wrong++;
        if (wrong <= 50) {
            System.out.println(line);
        }
    }

    void end() {
        System.out.println(made + " checks, " + wrong + " wrong");
        if (wrong != 0 || made == 0) {
            System.exit(1);
        }
    }
}
