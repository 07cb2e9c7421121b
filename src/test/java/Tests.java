/** What the tests check with: they count, and tell what is not as due. */
abstract class Tests {
    interface Call {
        Object answer();
    }

    private static final Class<?> INDEX = IndexOutOfBoundsException.class;
    private static final Class<?> ARGUMENT = IllegalArgumentException.class;
    private static final Class<?> STATE = IllegalStateException.class;

    private String about = "";
    private int checks;
    private int wrong;

    void promise(int number, Runnable test) {
        test("promise " + number, test);
    }

    void test(String name, Runnable test) {
        about = name;
        int before = checks;
        try {
            test.run();
        } catch (RuntimeException e) {
            tell("the test ended with " + e);
            e.printStackTrace(System.out);
        }
        if (checks == before) {
            tell("nothing was checked");
        }
    }

    void tell(String text) {
        wrong++;
        System.out.println(about + ": " + text);
    }

    void is(Object got, Object due) {
        checks++;
        if (!due.equals(got)) {
            tell("answered " + got + ", due is " + due + " (" + caller() + ")");
        }
    }

    /** The call throws just that, and all that the office can be asked is what it was before. */
    private void throwsIt(Witnesshall hall, Class<?> due, Call call) {
        checks++;
        String before = whole(hall);
        try {
            Object got = call.answer();
            tell("answered " + got + ", due is " + due.getSimpleName() + " (" + caller() + ")");
        } catch (RuntimeException e) {
            if (e.getClass() != due) {
                tell("threw " + e + ", due is " + due.getSimpleName() + " (" + caller() + ")");
            }
        }
        if (!whole(hall).equals(before)) {
            tell("an exception changed something (" + caller() + ")");
        }
    }

    /** The call answers just that, and all that the office can be asked is what it was before. */
    void isQuietly(Witnesshall hall, Call call, Object due) {
        String before = whole(hall);
        is(call.answer(), due);
        if (!whole(hall).equals(before)) {
            tell("something was changed (" + caller() + ")");
        }
    }

    /** All that can be asked of an office without changing it. */
    static String whole(Witnesshall hall) {
        StringBuilder all = new StringBuilder();
        for (int place = 0; place < 10; place++) {
            all.append(hall.desk(place, 36)).append(' ');
        }
        all.append(hall.sheetText()).append(' ').append(hall.sheetText().isEmpty() ? "" : hall.fault());
        for (int what = 0; what <= 9; what++) {
            all.append(' ').append(hall.count(what));
        }
        for (int paper = 0; paper < hall.count(0); paper++) {
            all.append('\n').append(hall.paper(paper)).append(' ').append(hall.ofPaper(paper, 2));
        }
        for (int chain = 0; chain < hall.count(6); chain++) {
            all.append('\n');
            for (int k = 0; k < hall.ofChain(chain, 0); k++) {
                all.append(hall.link(chain, k)).append(' ');
            }
        }
        return all.append('\n').append(hall.digest()).toString();
    }

    void noIndex(Witnesshall hall, Call call) {
        throwsIt(hall, INDEX, call);
    }

    void noArgument(Witnesshall hall, Call call) {
        throwsIt(hall, ARGUMENT, call);
    }

    void noState(Witnesshall hall, Call call) {
        throwsIt(hall, STATE, call);
    }

    private String caller() {
        for (StackTraceElement element : new Throwable().getStackTrace()) {
            if (!element.getClassName().equals("Tests")) {
                return "line " + element.getLineNumber();
            }
        }
        return "";
    }

    int checks() {
        return checks;
    }

    int wrong() {
        return wrong;
    }

    void end() {
        System.out.println(checks + " checks, " + wrong + " wrong");
        if (wrong > 0 || checks == 0) {
            System.exit(1);
        }
    }
}
