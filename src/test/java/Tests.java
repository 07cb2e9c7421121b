/** What the promises' tests check with: they count, and tell what is not as due. */
abstract class Tests {
    interface Call {
        Object answer();
    }

    private static final Class<?> INDEX = IndexOutOfBoundsException.class;
    private static final Class<?> ARGUMENT = IllegalArgumentException.class;
    private static final Class<?> STATE = IllegalStateException.class;

    private int promise;
    private int checks;
    private int wrong;

    void promise(int number, Runnable test) {
        promise = number;
        int before = checks;
        try {
            test.run();
        } catch (RuntimeException e) {
            tell("the test ended with " + e);
            e.printStackTrace(System.out);
        }
        if (checks == before) {
            tell("nothing was checked");
        }
    }

    private void tell(String text) {
        wrong++;
        System.out.println("promise " + promise + ": " + text);
    }

    void is(Object got, Object due) {
        checks++;
        if (!due.equals(got)) {
            tell("answered " + got + ", due is " + due + " (" + caller() + ")");
        }
    }

    /** The call throws just that, and what the office then tells of itself is what it told before. */
    private void throwsIt(Witnesshall hall, Class<?> due, Call call) {
        checks++;
        long before = hall.digest();
        String text = hall.sheetText();
        try {
            Object got = call.answer();
            tell("answered " + got + ", due is " + due.getSimpleName() + " (" + caller() + ")");
        } catch (RuntimeException e) {
            if (e.getClass() != due) {
                tell("threw " + e + ", due is " + due.getSimpleName() + " (" + caller() + ")");
            }
        }
        if (hall.digest() != before || !hall.sheetText().equals(text)) {
            tell("an exception changed something (" + caller() + ")");
        }
    }

    void noIndex(Witnesshall hall, Call call) {
        throwsIt(hall, INDEX, call);
    }

    void noArgument(Witnesshall hall, Call call) {
        throwsIt(hall, ARGUMENT, call);
    }

    void noState(Witnesshall hall, Call call) {
        throwsIt(hall, STATE, call);
    }

    private String caller() {
        for (StackTraceElement element : new Throwable().getStackTrace()) {
            if (!element.getClassName().equals("Tests")) {
                return "line " + element.getLineNumber();
            }
        }
        return "";
    }

    void end() {
        System.out.println(checks + " checks, " + wrong + " wrong");
        if (wrong > 0 || checks == 0) {
            System.exit(1);
        }
    }
}
