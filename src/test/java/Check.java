import java.util.Objects;

/** What the tests share: answers that are due, exceptions that are due, and samples and texts made at once. */
final class Check {
    interface Call {
        Object run();
    }

    private static int wrong;

    private Check() {
    }

    static void due(String what, Object want, Call call) {
        Object got;
        try {
            got = call.run();
        } catch (RuntimeException thrown) {
            got = "throws " + thrown.getClass().getName();
        }
        if (!Objects.equals(String.valueOf(got), String.valueOf(want))) {
            wrong++;
            System.out.println(what + " answered " + got + ", due is " + want);
        }
    }

    static void dueThrow(String what, Class<? extends RuntimeException> want, Call call) {
        due(what, "throws " + want.getName(), call);
    }

    /** A call that answers nothing of interest, but must not throw. */
    static void done(String what, Call call) {
        due(what, "done", () -> {
            call.run();
            return "done";
        });
    }

    static int sample(Formatseer seer, int... bytes) {
        int number = seer.sample();
        for (int one : bytes) {
            seer.append(number, one);
        }
        return number;
    }

    static void type(Formatseer seer, String text) {
        seer.clear();
        for (char sign : text.toCharArray()) {
            seer.type(sign);
        }
    }

    static int describe(Formatseer seer, String text) {
        type(seer, text);
        return seer.describe();
    }

    static String textOf(Formatseer seer, int description) {
        StringBuilder text = new StringBuilder();
        for (int index = 0; index < 60; index++) {
            try {
                text.append(seer.signAt(description, index));
            } catch (java.util.NoSuchElementException end) {
                break;
            }
        }
        return text.toString();
    }

    static void end() {
        if (wrong != 0) {
            System.out.println(wrong + " answers are not as due");
            System.exit(1);
        }
    }
}
