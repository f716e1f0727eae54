/** What the tests share: they tell each wrong answer, and end with exit code 1 if there was one. */
final class Check {
    static final Class<?> INDEX = IndexOutOfBoundsException.class;
    static final Class<?> ARGUMENT = IllegalArgumentException.class;
    static final Class<?> STATE = IllegalStateException.class;

    private static int wrong = 0;
    private static int checked = 0;

    private Check() {
    }

    interface Call {
        void run();
    }

    static void due(String what, Object got, Object want) {
        checked++;
        if (!got.equals(want)) {
            wrong++;
            System.out.println(what + " answered " + got + ", due is " + want);
        }
    }

    /** The call throws just this exception, no kind of it, and changes nothing that one can ask. */
    static void refused(ConfigBeacon x, String what, Class<?> want, Call call) {
        String before = Answers.all(x);
        Object thrown = "nothing";
        try {
            call.run();
        } catch (RuntimeException e) {
            thrown = Answers.isThrownBy(e, ConfigBeacon.class) ? e.getClass() : "the machine's " + e;
        }
        due(what + " throws", thrown, want);
        if (!before.equals(Answers.all(x))) {
            due(what + " changes", "something", "nothing");
        }
    }

    static void end(String test) {
        System.out.println(test + ": " + checked + " answers, " + wrong + " wrong");
        if (wrong != 0) {
            System.exit(1);
        }
    }
}
