import java.util.Arrays;
import java.util.NoSuchElementException;
import java.util.Objects;

/** What the tests share: answers that are due, exceptions that are due, and samples and texts made at once. */
final class Check {
    interface Call {
        Object run();
    }

    private static int wrong;
    private static int count;
    private static String about = "";

    private Check() {
    }

    /** What the checks are about that come behind this. */
    static void about(String words) {
        about = words;
    }

    /** How many answers were looked at. */
    static int count() {
        return count;
    }

    static void due(String what, Object want, Call call) {
        Object got;
        try {
            got = call.run();
        } catch (RuntimeException thrown) {
            got = "throws " + thrown.getClass().getName();
        }
        count++;
        if (!Objects.equals(String.valueOf(got), String.valueOf(want))) {
            wrong++;
            System.out.println((about.isEmpty() ? "" : "\"" + about + "\": ") + what + " answered " + got
                    + ", due is " + want);
        }
    }

    static void dueThrow(String what, Class<? extends RuntimeException> want, Call call) {
        due(what, "throws " + want.getName(), call);
    }

    /** A call that answers nothing of interest, but must not throw. */
    static void done(String what, Call call) {
        due(what, "done", () -> {
            call.run();
            return "done";
        });
    }

    static int sample(Formatseer seer, int... bytes) {
        int number = seer.sample();
        for (int one : bytes) {
            seer.append(number, one);
        }
        return number;
    }

    static int[] row(int... bytes) {
        return bytes;
    }

    /** A row with ones of the same byte behind its own. */
    static int[] filled(int size, int rest, int... first) {
        int[] bytes = new int[size];
        Arrays.fill(bytes, rest);
        System.arraycopy(first, 0, bytes, 0, first.length);
        return bytes;
    }

    static Formatseer seerOf(int limit, int[]... rows) {
        Formatseer seer = new Formatseer();
        for (int[] row : rows) {
            sample(seer, row);
        }
        seer.setLimit(limit);
        return seer;
    }

    static String bytesOf(Formatseer seer, int sample) {
        StringBuilder bytes = new StringBuilder();
        for (int place = 0; place < 40; place++) {
            try {
                bytes.append(seer.byteAt(sample, place)).append(' ');
            } catch (NoSuchElementException end) {
                break;
            }
        }
        return bytes.toString().trim();
    }

    static String cellsOf(Formatseer seer, int sample) {
        StringBuilder cells = new StringBuilder();
        for (int column = 0; column < seer.columns(sample); column++) {
            cells.append(seer.cell(sample, column)).append(' ');
        }
        return cells.toString().trim();
    }

    /** All relations, as kind, place, form and rest. */
    static String relationsOf(Formatseer seer, int sample) {
        StringBuilder text = new StringBuilder();
        for (int index = 0; index < seer.relations(sample); index++) {
            text.append(seer.kindOf(sample, index)).append(seer.detail(sample, index, 'p')).append(',')
                    .append(seer.detail(sample, index, 'f')).append(',').append(seer.detail(sample, index, 'r'))
                    .append(' ');
        }
        return text.toString().trim();
    }

    /** All fields, as place and size. */
    static String fieldsOf(Formatseer seer, int description, int sample) {
        StringBuilder text = new StringBuilder();
        for (int field = 0; field < seer.fields(description, sample); field++) {
            text.append(seer.fieldAt(description, sample, field)).append('+')
                    .append(seer.fieldSize(description, sample, field)).append(' ');
        }
        return text.toString().trim();
    }

    static void type(Formatseer seer, String text) {
        seer.clear();
        for (char sign : text.toCharArray()) {
            seer.type(sign);
        }
    }

    static int describe(Formatseer seer, String text) {
        type(seer, text);
        return seer.describe();
    }

    static String textOf(Formatseer seer, int description) {
        StringBuilder text = new StringBuilder();
        for (int index = 0; index < 60; index++) {
            try {
                text.append(seer.signAt(description, index));
            } catch (NoSuchElementException end) {
                break;
            }
        }
        return text.toString();
    }

    static void end() {
        if (wrong != 0) {
            System.out.println(wrong + " answers are not as due");
            System.exit(1);
        }
    }
}
