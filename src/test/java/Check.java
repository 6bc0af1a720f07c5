/** Counts and prints the answers that are not the ones that are due. */
final class Check {
    /** A call that is to throw. */
    interface Call {
        void run();
    }

    private final String name;
    private String place = "";
    private int seen = 0;
    private int wrong = 0;

    Check(String name) {
        this.name = name;
    }

    /** What is looked at from now on. */
    void at(String newPlace) {
        place = newPlace + ": ";
    }

    int seen() {
        return seen;
    }

    void due(String what, long got, long want) {
        dueText(what, Long.toString(got), Long.toString(want));
    }

    void due(String what, boolean got, boolean want) {
        dueText(what, Boolean.toString(got), Boolean.toString(want));
    }

    void dueText(String what, String got, String want) {
        seen++;
        if (!got.equals(want)) {
            wrong++;
            System.out.println(name + ": " + place + what + " answered " + got + ", due is " + want);
        }
    }

    void illegalArgument(String what, Call call) {
        dueText(what, thrownBy(call), "IllegalArgumentException");
    }

    void illegalState(String what, Call call) {
        dueText(what, thrownBy(call), "IllegalStateException");
    }

    void legal(String what, Call call) {
        dueText(what, thrownBy(call), "nothing thrown");
    }

    static String thrownBy(Call call) {
        try {
            call.run();
            return "nothing thrown";
        } catch (RuntimeException e) {
            return e.getClass().getSimpleName();
        }
    }

    void end() {
        System.out.println(name + ": " + seen + " answers, " + wrong + " wrong");
        if (wrong != 0 || seen == 0) {
            System.exit(1);
        }
    }
}
