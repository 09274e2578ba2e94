import java.util.NoSuchElementException;

/** Each exception of each promise: on both sides of its edge, ahead of those behind it, and without a change. */
final class EdgesOfExceptions {
    interface Asked {
        Object of(Formatseer seer);
    }

    interface Numbered {
        Object of(Formatseer seer, int number);
    }

    private static final Class<IndexOutOfBoundsException> OUTSIDE = IndexOutOfBoundsException.class;
    private static final Class<IllegalArgumentException> ARGUMENT = IllegalArgumentException.class;
    private static final Class<IllegalStateException> STATE = IllegalStateException.class;
    private static final Class<NoSuchElementException> NO_ELEMENT = NoSuchElementException.class;
    private static final Class<UnsupportedOperationException> UNSUPPORTED = UnsupportedOperationException.class;
    private static final Class<ArithmeticException> ARITHMETIC = ArithmeticException.class;

    private static final String NO_SAMPLE = "Throws `IndexOutOfBoundsException` if there is no such sample";
    private static final String ASIDE = "Throws `UnsupportedOperationException` if it is set aside";
    private static final String NO_DESCRIPTION = "Throws `IndexOutOfBoundsException` if there is no such description";
    private static final String NEITHER =
            "Throws `IndexOutOfBoundsException` if there is no such description or sample";

    /** The number of the sample that is set aside, of the empty one, and of one with 40 bytes. */
    private static final int SET_ASIDE = 5;
    private static final int EMPTY = 4;
    private static final int FULL = 3;

    private EdgesOfExceptions() {
    }

    static void all() {
        samplesAndBytes();
        limitsAndClasses();
        words();
        alignment();
        relations();
        details();
        claims();
        packing();
        buffers();
        edits();
        finding();
        reading();
        costs();
        mutants();
        questions();
        talks();
        followers();
        figures();
        whatIsAsked();
    }

    /** A house with 10 samples, 6 descriptions, 20 claims, 12 messages in session 0, and a buffer. */
    private static Formatseer house(String buffer) {
        Formatseer seer = Check.seerOf(300, Check.row(2, 5, 6), Check.row(1, 5), Check.row(3, 5, 6, 7),
                Check.filled(40, 9), Check.row(), Check.row(65, 66), Check.row(0, 255), Check.row(200, 201, 202),
                Check.row(70, 0), Check.row(4, 5, 6, 7, 8));
        seer.setAside(SET_ASIDE, true);
        for (int number = 0; number < 20; number++) {
            seer.claim(number % 3, number % 2);
        }
        for (String text : new String[] {"nv0", "c1b1", "nr0(h)", "z", "hh"}) {
            Check.describe(seer, text);
        }
        seer.find(0);
        seer.answer(1, true);
        for (int number = 0; number < 12; number++) {
            seer.send(0, number % 2, number % 3);
        }
        seer.send(1, 0, 1);
        Check.type(seer, buffer);
        return seer;
    }

    /** All that can be seen of a house, which is at its end then. */
    private static String picture(Formatseer seer, String lastSign) {
        StringBuilder text = new StringBuilder();
        text.append(seer.checksum()).append(' ').append(seer.meanLength()).append(' ').append(seer.isSound());
        text.append(told("claims", 20, seer::rests));
        text.append(told("possible", 6, seer::isPossible)).append(told("costs", 6, seer::cost));
        text.append(told("texts", 6, number -> Check.textOf(seer, number)));
        text.append(told("reading", 6, number -> seer.read(number, 0)));
        text.append(told("classes", 10, seer::classOf)).append(told("bytes", 10, seer::variety));
        text.append(told("states", 4, seer::states))
                .append(told("next", 4, session -> seer.canFollow(session, 1, 0, 2)));
        text.append(told("messages", 4, session -> seer.send(session, 0, 0)));
        text.append(told("asides", 10, sample -> seer.setAside(sample, false)));
        text.append(" limit ").append(seer.setLimit(1));
        for (char sign : lastSign.toCharArray()) {
            text.append(" buffer ").append(seer.type(sign));
        }
        text.append(told("edit", 1, seer::edit)).append(Check.textOf(seer, 0)).append(seer.clear());
        return text.toString();
    }

    private interface Told {
        Object of(int number);
    }

    private static String told(String what, int count, Told call) {
        StringBuilder text = new StringBuilder(" " + what);
        for (int number = 0; number < count; number++) {
            try {
                text.append(' ').append(call.of(number));
            } catch (RuntimeException thrown) {
                text.append(' ').append(thrown.getClass().getSimpleName());
            }
        }
        return text.toString();
    }

    private static void thrown(Class<? extends RuntimeException> want, String buffer, String lastSign, Asked call) {
        Formatseer seer = house(buffer);
        Check.dueThrow("the call", want, () -> call.of(seer));
        Check.due("what it was before", picture(house(buffer), lastSign), () -> picture(seer, lastSign));
    }

    /** A call that throws in a house, and leaves it as it was. */
    private static void thrown(Class<? extends RuntimeException> want, Asked call) {
        thrown(want, "hh", "h", call);
    }

    /** A call that throws for numbers outside of what is told, and not for the first and the last one. */
    private static void thrownOutside(Class<? extends RuntimeException> want, int first, int last, Numbered call) {
        for (int number : new int[] {first - 1, last + 1, Integer.MIN_VALUE, Integer.MAX_VALUE}) {
            thrown(want, seer -> call.of(seer, number));
        }
        for (int number : new int[] {first, last}) {
            Check.done("number " + number, () -> call.of(house("hh"), number));
        }
    }

    private static void samplesAndBytes() {
        Sentence.of(2, "Throws `IllegalStateException` if there are 10");
        thrown(STATE, Formatseer::sample);
        Sentence.of(3, NO_SAMPLE);
        thrownOutside(OUTSIDE, 0, 9, (seer, sample) -> seer.append(sample, 7));
        Sentence.of(3, "Throws `IllegalArgumentException` if the byte is out of range");
        thrownOutside(ARGUMENT, 0, 255, (seer, value) -> seer.append(0, value));
        Sentence.of(3, "Throws `IllegalStateException` if it has 40");
        thrown(STATE, seer -> seer.append(FULL, 7));
        Sentence.of("If several exceptions apply, the one that is documented first is thrown.");
        thrown(OUTSIDE, seer -> seer.append(10, 256));
        thrown(ARGUMENT, seer -> seer.append(FULL, 256));
        thrown(OUTSIDE, seer -> seer.byteAt(10, -1));
        Sentence.of(4, NO_SAMPLE);
        thrownOutside(OUTSIDE, 0, 9, (seer, sample) -> seer.byteAt(sample, 0));
        Sentence.of(4, "Throws `NoSuchElementException` if there is no such place");
        thrownOutside(NO_ELEMENT, 0, 2, (seer, place) -> seer.byteAt(0, place));
        thrownOutside(NO_ELEMENT, 0, 39, (seer, place) -> seer.byteAt(FULL, place));
        thrown(NO_ELEMENT, seer -> seer.byteAt(EMPTY, 0));
        Sentence.of(5, NO_SAMPLE);
        thrownOutside(OUTSIDE, 0, 9, (seer, sample) -> seer.setAside(sample, true));
        thrownOutside(OUTSIDE, 0, 9, (seer, sample) -> seer.setAside(sample, false));
    }

    private static void limitsAndClasses() {
        Sentence.of(6, "Throws `IllegalArgumentException` if it is out of range");
        thrownOutside(ARGUMENT, 1, 1000, Formatseer::setLimit);
        Sentence.of(7, "Throws `IndexOutOfBoundsException` if there is no such sample, for either");
        thrownOutside(OUTSIDE, 0, 9, (seer, first) -> seer.likeness(first, 0));
        thrownOutside(OUTSIDE, 0, 9, (seer, second) -> seer.likeness(0, second));
        thrown(OUTSIDE, seer -> seer.likeness(10, 10));
        Sentence.of(8, NO_SAMPLE);
        thrownOutside(OUTSIDE, 0, 9, Formatseer::classOf);
        Sentence.of(8, ASIDE);
        thrown(UNSUPPORTED, seer -> seer.classOf(SET_ASIDE));
        Sentence.of(9, NO_SAMPLE);
        thrownOutside(OUTSIDE, 0, 9, Formatseer::isOutlier);
        Sentence.of(9, ASIDE);
        thrown(UNSUPPORTED, seer -> seer.isOutlier(SET_ASIDE));
    }

    private static void words() {
        Sentence.of(10, NO_SAMPLE);
        thrownOutside(OUTSIDE, 0, 9, (seer, sample) -> seer.word(sample, 0, 2, true));
        Sentence.of(10, "Throws `IllegalArgumentException` if there is no such size");
        for (int size : new int[] {-2, 0, 1, 3, 5, 8, Integer.MAX_VALUE, Integer.MIN_VALUE}) {
            thrown(ARGUMENT, seer -> seer.word(FULL, 0, size, true));
        }
        Check.due("size 2", 2313L, () -> house("").word(FULL, 0, 2, true));
        Check.due("size 4", 151587081L, () -> house("").word(FULL, 0, 4, true));
        Sentence.of(10, "Throws `NoSuchElementException` if there are not so many bytes from there");
        thrownOutside(NO_ELEMENT, 0, 38, (seer, place) -> seer.word(FULL, place, 2, true));
        thrownOutside(NO_ELEMENT, 0, 36, (seer, place) -> seer.word(FULL, place, 4, false));
        thrown(NO_ELEMENT, seer -> seer.word(EMPTY, 0, 2, true));
        Sentence.of("If several exceptions apply, the one that is documented first is thrown.");
        thrown(OUTSIDE, seer -> seer.word(10, -1, 3, true));
        thrown(OUTSIDE, seer -> seer.word(10, -1, 2, true));
        thrown(ARGUMENT, seer -> seer.word(FULL, -1, 3, true));
    }

    private static void alignment() {
        Sentence.of(11, NO_SAMPLE);
        thrownOutside(OUTSIDE, 0, 9, Formatseer::centre);
        Sentence.of(11, ASIDE);
        thrown(UNSUPPORTED, seer -> seer.centre(SET_ASIDE));
        Sentence.of(12, NO_SAMPLE);
        thrownOutside(OUTSIDE, 0, 9, Formatseer::columns);
        Sentence.of(12, ASIDE);
        thrown(UNSUPPORTED, seer -> seer.columns(SET_ASIDE));
        Sentence.of(13, NO_SAMPLE);
        thrownOutside(OUTSIDE, 0, 9, (seer, sample) -> seer.cell(sample, 0));
        Sentence.of(13, ASIDE);
        thrown(UNSUPPORTED, seer -> seer.cell(SET_ASIDE, 0));
        Sentence.of(13, "Throws `NoSuchElementException` if there is no such column");
        thrownOutside(NO_ELEMENT, 0, 4, (seer, column) -> seer.cell(1, column));
        thrown(NO_ELEMENT, seer -> seer.cell(EMPTY, 0));
        Sentence.of(14, NO_SAMPLE);
        thrownOutside(OUTSIDE, 0, 9, (seer, sample) -> seer.judge(sample, 0));
        Sentence.of(14, ASIDE);
        thrown(UNSUPPORTED, seer -> seer.judge(SET_ASIDE, 0));
        Sentence.of(14, "Throws `NoSuchElementException` if there is no such column");
        thrownOutside(NO_ELEMENT, 0, 4, (seer, column) -> seer.judge(1, column));
        thrown(NO_ELEMENT, seer -> seer.judge(EMPTY, 0));
        Sentence.of("If several exceptions apply, the one that is documented first is thrown.");
        thrown(OUTSIDE, seer -> seer.cell(10, -1));
        thrown(UNSUPPORTED, seer -> seer.cell(SET_ASIDE, -1));
        thrown(OUTSIDE, seer -> seer.judge(10, -1));
        thrown(UNSUPPORTED, seer -> seer.judge(SET_ASIDE, -1));
    }

    private static void relations() {
        Check.due("the relations of the class of 0", "l0,1,1 k0,0,0", () -> Check.relationsOf(house(""), 0));
        Sentence.of(15, NO_SAMPLE);
        thrownOutside(OUTSIDE, 0, 9, Formatseer::relations);
        Sentence.of(15, ASIDE);
        thrown(UNSUPPORTED, seer -> seer.relations(SET_ASIDE));
        Sentence.of(16, NO_SAMPLE);
        thrownOutside(OUTSIDE, 0, 9, (seer, sample) -> seer.kindOf(sample, 0));
        Sentence.of(16, ASIDE);
        thrown(UNSUPPORTED, seer -> seer.kindOf(SET_ASIDE, 0));
        Sentence.of(16, "Throws `NoSuchElementException` if there is no such relation");
        thrownOutside(NO_ELEMENT, 0, 1, (seer, index) -> seer.kindOf(0, index));
        thrown(NO_ELEMENT, seer -> seer.kindOf(EMPTY, 0));
        Sentence.of("If several exceptions apply, the one that is documented first is thrown.");
        thrown(OUTSIDE, seer -> seer.kindOf(10, -1));
        thrown(UNSUPPORTED, seer -> seer.kindOf(SET_ASIDE, -1));
    }

    private static void details() {
        Sentence.of(17, NO_SAMPLE);
        thrownOutside(OUTSIDE, 0, 9, (seer, sample) -> seer.detail(sample, 0, 'p'));
        Sentence.of(17, ASIDE);
        thrown(UNSUPPORTED, seer -> seer.detail(SET_ASIDE, 0, 'p'));
        Sentence.of(17, "Throws `IllegalArgumentException` if there is no such number");
        for (char what : new char[] {'o', 'q', 'e', 'g', 's', 'P', 'k', 0, 0xffff}) {
            thrown(ARGUMENT, seer -> seer.detail(0, 0, what));
        }
        Sentence.of(17, "Throws `NoSuchElementException` if there is no such relation");
        for (char what : new char[] {'p', 'f', 'r'}) {
            thrownOutside(NO_ELEMENT, 0, 1, (seer, index) -> seer.detail(0, index, what));
            thrown(NO_ELEMENT, seer -> seer.detail(EMPTY, 0, what));
        }
        Sentence.of("If several exceptions apply, the one that is documented first is thrown.");
        thrown(OUTSIDE, seer -> seer.detail(10, -1, 'q'));
        thrown(OUTSIDE, seer -> seer.detail(10, 0, 'q'));
        thrown(UNSUPPORTED, seer -> seer.detail(SET_ASIDE, 0, 'q'));
        thrown(UNSUPPORTED, seer -> seer.detail(SET_ASIDE, -1, 'p'));
        thrown(ARGUMENT, seer -> seer.detail(0, 2, 'q'));
    }

    private static void claims() {
        Sentence.of(18, NO_SAMPLE);
        thrown(OUTSIDE, seer -> seer.claim(-1, 0));
        thrown(OUTSIDE, seer -> seer.claim(10, 0));
        Sentence.of(18, ASIDE);
        thrown(UNSUPPORTED, seer -> seer.claim(SET_ASIDE, 0));
        Sentence.of(18, "Throws `NoSuchElementException` if there is no such relation");
        thrown(NO_ELEMENT, seer -> seer.claim(EMPTY, 0));
        Formatseer few = Check.seerOf(1, Check.row(1, 5), Check.row(2, 5, 6), Check.row());
        Check.dueThrow("index -1", NO_ELEMENT, () -> few.claim(0, -1));
        Check.dueThrow("index 2", NO_ELEMENT, () -> few.claim(0, 2));
        Check.dueThrow("none at all", NO_ELEMENT, () -> few.claim(2, 0));
        Check.dueThrow("none was made", OUTSIDE, () -> few.stands(0));
        Check.due("index 1", 0, () -> few.claim(0, 1));
        Sentence.of(18, "Throws `IllegalStateException` if there are 20 claims");
        thrown(STATE, seer -> seer.claim(1, 1));
        for (int number = 1; number < 20; number++) {
            int due = number;
            Check.due("claim", due, () -> few.claim(0, 0));
        }
        Check.dueThrow("claim 21", STATE, () -> few.claim(0, 0));
        Sentence.of("If several exceptions apply, the one that is documented first is thrown.");
        thrown(OUTSIDE, seer -> seer.claim(10, -1));
        thrown(UNSUPPORTED, seer -> seer.claim(SET_ASIDE, -1));
        thrown(NO_ELEMENT, seer -> seer.claim(0, 2));
        Sentence.of(19, "Throws `IndexOutOfBoundsException` if there is no such claim");
        thrownOutside(OUTSIDE, 0, 19, Formatseer::stands);
        Sentence.of(20, "Throws `IndexOutOfBoundsException` if there is no such claim");
        thrownOutside(OUTSIDE, 0, 19, Formatseer::rests);
    }

    private static void packing() {
        Sentence.of(21, NO_SAMPLE);
        thrownOutside(OUTSIDE, 0, 9, Formatseer::mask);
        Sentence.of(21, "Throws `NoSuchElementException` if there is none");
        thrown(NO_ELEMENT, seer -> seer.mask(EMPTY));
        thrown(NO_ELEMENT, seer -> seer.mask(6));
        Check.due("of one that is set aside", 1, () -> house("").mask(SET_ASIDE));
        Sentence.of(22, NO_SAMPLE);
        thrown(OUTSIDE, seer -> seer.unpacked(-1));
        thrown(OUTSIDE, seer -> seer.unpacked(10));
        Check.due("of one that is set aside", 65, () -> house("").unpacked(SET_ASIDE));
        Sentence.of(22, "Throws `NoSuchElementException` if it cannot be unpacked");
        thrown(NO_ELEMENT, seer -> seer.unpacked(0));
        thrown(NO_ELEMENT, seer -> seer.unpacked(6));
        Check.due("one without bytes", 0, () -> house("").unpacked(EMPTY));
        Sentence.of(23, NO_SAMPLE);
        thrownOutside(OUTSIDE, 0, 9, Formatseer::variety);
    }

    private static void buffers() {
        String full = "h".repeat(60);
        Sentence.of(24, "Throws `IllegalArgumentException` if it is neither a digit nor one of c b n N v z s x h r"
                + " i ( ) =");
        for (char sign : new char[] {'/', ':', 'C', 'a', 'd', '<', '>', ' ', '*', 0, 0xffff}) {
            thrown(ARGUMENT, seer -> seer.type(sign));
        }
        Sentence.of(24, "Throws `IllegalStateException` if 60 are there");
        thrown(STATE, full, "", seer -> seer.type('h'));
        Check.due("59 are there", 60, () -> house(full.substring(1)).type('h'));
        Sentence.of("If several exceptions apply, the one that is documented first is thrown.");
        thrown(ARGUMENT, full, "", seer -> seer.type('q'));
        thrown(ARGUMENT, "nr0(h", ")", Formatseer::describe);
        Sentence.of(26, "Throws `IllegalArgumentException` if it is none");
        Formatseer seer = new Formatseer();
        Check.dueThrow("an empty buffer", ARGUMENT, seer::describe);
        Check.dueThrow("a bad one", ARGUMENT, () -> Check.describe(seer, "nr0(h"));
        Check.due("which stays", 6, () -> seer.type(')'));
        Check.due("and is one now", 0, seer::describe);
        Check.due("so it was the first one", "nr0(h)", () -> Check.textOf(seer, 0));
        Sentence.of(26, "Throws `IllegalStateException` if there are 6");
        thrown(STATE, Formatseer::describe);
        for (int number = 1; number < 6; number++) {
            int due = number;
            Check.due("description", due, () -> Check.describe(seer, "h"));
        }
        Check.dueThrow("description 7", STATE, () -> Check.describe(seer, "h"));
    }

    private static void edits() {
        Sentence.of(27, NO_DESCRIPTION);
        thrownOutside(OUTSIDE, 0, 5, Formatseer::edit);
        Sentence.of(27, "Throws `IllegalArgumentException` if the buffer is none");
        thrown(ARGUMENT, "nr0(h", ")", seer -> seer.edit(0));
        thrown(ARGUMENT, "nr0(h", ")", seer -> seer.edit(5));
        thrown(ARGUMENT, "", "h", seer -> seer.edit(1));
        Sentence.of("If several exceptions apply, the one that is documented first is thrown.");
        thrown(OUTSIDE, "nr0(h", ")", seer -> seer.edit(6));
        thrown(OUTSIDE, "", "h", seer -> seer.edit(-1));
        Sentence.of(29, NO_DESCRIPTION);
        thrownOutside(OUTSIDE, 0, 5, (seer, description) -> seer.signAt(description, 0));
        Sentence.of(29, "Throws `NoSuchElementException` if there is no such sign");
        thrownOutside(NO_ELEMENT, 0, 5, (seer, index) -> seer.signAt(2, index));
        Sentence.of("If several exceptions apply, the one that is documented first is thrown.");
        thrown(OUTSIDE, seer -> seer.signAt(6, -1));
    }

    private static void finding() {
        Sentence.of(28, NO_SAMPLE);
        Formatseer one = Check.seerOf(600, Check.row(7), Check.row(), Check.row(8));
        Check.dueThrow("sample -1", OUTSIDE, () -> one.find(-1));
        Check.dueThrow("sample 3", OUTSIDE, () -> one.find(3));
        Check.due("sample 0", 0, () -> one.find(0));
        Check.due("sample 2", 1, () -> one.find(2));
        Sentence.of(28, ASIDE);
        one.setAside(2, true);
        Check.dueThrow("sample 2", UNSUPPORTED, () -> one.find(2));
        Sentence.of(28, "Throws `NoSuchElementException` if none can be made");
        Check.dueThrow("sample 1", NO_ELEMENT, () -> one.find(1));
        Check.dueThrow("none was made", OUTSIDE, () -> one.cost(2));
        Sentence.of(28, "Throws `IllegalStateException` if there are 6");
        thrown(STATE, seer -> seer.find(0));
        for (int number = 2; number < 6; number++) {
            int due = number;
            Check.due("description", due, () -> one.find(0));
        }
        Check.dueThrow("description 7", STATE, () -> one.find(0));
        Sentence.of("If several exceptions apply, the one that is documented first is thrown.");
        thrown(OUTSIDE, seer -> seer.find(10));
        thrown(UNSUPPORTED, seer -> seer.find(SET_ASIDE));
        thrown(NO_ELEMENT, seer -> seer.find(EMPTY));
        Formatseer empty = Check.seerOf(600, Check.row());
        empty.setAside(0, true);
        Check.dueThrow("set aside, and none can be made", UNSUPPORTED, () -> empty.find(0));
    }

    private static void reading() {
        Sentence.of(30, NEITHER);
        thrownOutside(OUTSIDE, 0, 5, (seer, description) -> seer.read(description, 0));
        thrownOutside(OUTSIDE, 0, 9, (seer, sample) -> seer.read(0, sample));
        thrown(OUTSIDE, seer -> seer.read(6, 10));
        Sentence.of(31, NEITHER);
        thrownOutside(OUTSIDE, 0, 5, (seer, description) -> seer.fields(description, 0));
        thrownOutside(OUTSIDE, 0, 9, (seer, sample) -> seer.fields(0, sample));
        Sentence.of(32, NEITHER);
        thrownOutside(OUTSIDE, 0, 5, (seer, description) -> seer.fieldAt(description, 0, 0));
        thrownOutside(OUTSIDE, 0, 9, (seer, sample) -> seer.fieldAt(0, sample, 0));
        Sentence.of(32, "Throws `NoSuchElementException` if there is no such field");
        thrownOutside(NO_ELEMENT, 0, 1, (seer, field) -> seer.fieldAt(0, 0, field));
        thrownOutside(NO_ELEMENT, 0, 2, (seer, field) -> seer.fieldAt(2, 0, field));
        thrown(NO_ELEMENT, seer -> seer.fieldAt(0, EMPTY, 0));
        Sentence.of(33, NEITHER);
        thrownOutside(OUTSIDE, 0, 5, (seer, description) -> seer.fieldSize(description, 0, 0));
        thrownOutside(OUTSIDE, 0, 9, (seer, sample) -> seer.fieldSize(0, sample, 0));
        Sentence.of(33, "Throws `NoSuchElementException` if there is no such field");
        thrownOutside(NO_ELEMENT, 0, 1, (seer, field) -> seer.fieldSize(0, 0, field));
        thrownOutside(NO_ELEMENT, 0, 2, (seer, field) -> seer.fieldSize(2, 0, field));
        thrown(NO_ELEMENT, seer -> seer.fieldSize(0, EMPTY, 0));
        Sentence.of("If several exceptions apply, the one that is documented first is thrown.");
        thrown(OUTSIDE, seer -> seer.fieldAt(6, 0, -1));
        thrown(OUTSIDE, seer -> seer.fieldAt(0, 10, -1));
        thrown(OUTSIDE, seer -> seer.fieldSize(6, 0, -1));
        thrown(OUTSIDE, seer -> seer.fieldSize(0, 10, -1));
    }

    private static void costs() {
        Sentence.of(34, NO_DESCRIPTION);
        thrownOutside(OUTSIDE, 0, 5, Formatseer::cost);
        Sentence.of(35, "Throws `NoSuchElementException` if there are none");
        Formatseer seer = Check.seerOf(600, Check.row(1));
        Check.dueThrow("none", NO_ELEMENT, seer::best);
        Check.describe(seer, "z");
        Check.due("one, which reads nothing", 0, seer::best);
        Sentence.of(36, "Throws `IndexOutOfBoundsException` if there is no such description, for either");
        thrownOutside(OUTSIDE, 0, 5, (one, first) -> one.differ(first, 0));
        thrownOutside(OUTSIDE, 0, 5, (one, second) -> one.differ(0, second));
        thrown(OUTSIDE, one -> one.differ(6, 6));
        Sentence.of(38, NO_DESCRIPTION);
        thrownOutside(OUTSIDE, 0, 5, Formatseer::cover);
    }

    private static void mutants() {
        Formatseer seer = Check.seerOf(600, Check.row(2, 5, 6), Check.row(1, 5));
        Check.describe(seer, "nv0");
        Check.describe(seer, "c9");
        Sentence.of(37, NEITHER);
        for (int number : new int[] {-1, 2, Integer.MAX_VALUE, Integer.MIN_VALUE}) {
            Check.dueThrow("description " + number, OUTSIDE, () -> seer.mutant(number, 0, 1, 7));
            Check.dueThrow("sample " + number, OUTSIDE, () -> seer.mutant(0, number, 1, 7));
        }
        Sentence.of(37, "Throws `IllegalArgumentException` if the byte is out of range");
        for (int value : new int[] {-1, 256, Integer.MAX_VALUE, Integer.MIN_VALUE}) {
            Check.dueThrow("byte " + value, ARGUMENT, () -> seer.mutant(0, 0, 1, value));
        }
        Sentence.of(37, "Throws `UnsupportedOperationException` if the description does not read the sample, the"
                + " place is in"
                + " no field by b, v, h or z, it is the last byte of one by z, or the byte would be 0 in such a one");
        Check.dueThrow("it does not read it", UNSUPPORTED, () -> seer.mutant(1, 0, 1, 7));
        Check.dueThrow("n", UNSUPPORTED, () -> seer.mutant(0, 0, 0, 7));
        Check.dueThrow("no place", UNSUPPORTED, () -> seer.mutant(0, 0, 3, 7));
        Check.dueThrow("ahead", UNSUPPORTED, () -> seer.mutant(0, 0, -1, 7));
        Check.dueThrow("nothing was made", OUTSIDE, () -> seer.variety(2));
        Check.due("v", 2, () -> seer.mutant(0, 0, 2, 7));
        Check.due("v at its first byte", 3, () -> seer.mutant(0, 0, 1, 7));
        Sentence.of(37, "Throws `IllegalStateException` if there are 10 samples");
        thrown(STATE, one -> one.mutant(0, 0, 1, 7));
        Sentence.of("If several exceptions apply, the one that is documented first is thrown.");
        thrown(OUTSIDE, one -> one.mutant(6, 0, 1, 256));
        thrown(OUTSIDE, one -> one.mutant(0, 10, 1, 256));
        thrown(OUTSIDE, one -> one.mutant(0, 10, -1, 7));
        thrown(ARGUMENT, one -> one.mutant(0, 0, -1, 256));
        thrown(ARGUMENT, one -> one.mutant(1, 0, 1, 256));
        thrown(ARGUMENT, one -> one.mutant(0, 0, 1, 256));
        thrown(UNSUPPORTED, one -> one.mutant(0, 0, -1, 7));
        thrown(UNSUPPORTED, one -> one.mutant(1, 0, 1, 7));
    }

    private static void questions() {
        Sentence.of(39, NO_SAMPLE);
        thrownOutside(OUTSIDE, 0, 9, (seer, sample) -> seer.answer(sample, true));
        thrownOutside(OUTSIDE, 0, 9, (seer, sample) -> seer.answer(sample, false));
        Sentence.of(40, NO_DESCRIPTION);
        thrownOutside(OUTSIDE, 0, 5, Formatseer::isPossible);
        Sentence.of(41, "Throws `NoSuchElementException` if no sample parts them");
        Formatseer seer = Check.seerOf(600, Check.row(1));
        Check.describe(seer, "h");
        Check.describe(seer, "n");
        Check.dueThrow("both read it", NO_ELEMENT, seer::question);
        Check.describe(seer, "z");
        Check.due("the third one does not", 0, seer::question);
    }

    private static void talks() {
        Sentence.of(42, "Throws `IndexOutOfBoundsException` if there is no such session or sample");
        for (int session : new int[] {-1, 4, Integer.MAX_VALUE, Integer.MIN_VALUE}) {
            thrown(OUTSIDE, seer -> seer.send(session, 0, 0));
        }
        Check.due("session 3", 1, () -> house("").send(3, 0, 0));
        thrownOutside(OUTSIDE, 0, 9, (seer, sample) -> seer.send(1, 0, sample));
        Sentence.of(42, "Throws `IllegalArgumentException` if there is no such side");
        thrownOutside(ARGUMENT, 0, 1, (seer, side) -> seer.send(1, side, 0));
        Sentence.of(42, "Throws `IllegalStateException` if it has 12");
        thrown(STATE, seer -> seer.send(0, 0, 0));
        Formatseer twelve = Check.seerOf(600, Check.row(1));
        for (int count = 1; count <= 12; count++) {
            Check.due("message", count, () -> twelve.send(0, 1, 0));
        }
        Check.dueThrow("message 13", STATE, () -> twelve.send(0, 1, 0));
        Sentence.of("If several exceptions apply, the one that is documented first is thrown.");
        thrown(OUTSIDE, seer -> seer.send(4, 2, 0));
        thrown(OUTSIDE, seer -> seer.send(1, 2, 10));
        thrown(OUTSIDE, seer -> seer.send(0, 0, 10));
        thrown(OUTSIDE, seer -> seer.send(0, 2, 10));
        thrown(ARGUMENT, seer -> seer.send(0, 2, 0));
        Sentence.of(43, "Throws `IllegalArgumentException` if a place is not from 0 to 39");
        thrownOutside(ARGUMENT, 0, 39, (seer, place) -> seer.isEcho(place, 0));
        thrownOutside(ARGUMENT, 0, 39, (seer, echo) -> seer.isEcho(0, echo));
        thrown(ARGUMENT, seer -> seer.isEcho(40, 40));
        Sentence.of(44, "Throws `IllegalArgumentException` if the place is not from 0 to 39");
        thrownOutside(ARGUMENT, 0, 39, Formatseer::isCounter);
    }

    private static void followers() {
        Sentence.of(45, "Throws `IllegalArgumentException` if the depth is out of range");
        thrownOutside(ARGUMENT, 1, 3, Formatseer::states);
        Sentence.of(46, "Throws `IndexOutOfBoundsException` if there is no such session");
        thrownOutside(OUTSIDE, 0, 3, (seer, session) -> seer.canFollow(session, 1, 0, 0));
        Sentence.of(46, "Throws `IllegalArgumentException` if the depth, the side or the byte is out of range");
        thrownOutside(ARGUMENT, 1, 3, (seer, depth) -> seer.canFollow(0, depth, 0, 0));
        thrownOutside(ARGUMENT, 0, 1, (seer, side) -> seer.canFollow(0, 1, side, 0));
        thrownOutside(ARGUMENT, -1, 255, (seer, value) -> seer.canFollow(0, 1, 0, value));
        Sentence.of("If several exceptions apply, the one that is documented first is thrown.");
        thrown(OUTSIDE, seer -> seer.canFollow(4, 0, 0, 0));
        thrown(OUTSIDE, seer -> seer.canFollow(-1, 1, 2, 0));
        thrown(OUTSIDE, seer -> seer.canFollow(4, 1, 0, 256));
    }

    private static void figures() {
        Formatseer none = new Formatseer();
        Check.describe(none, "h");
        Sentence.of(48, NO_DESCRIPTION);
        thrownOutside(OUTSIDE, 0, 5, Formatseer::readShare);
        Sentence.of(48, "Throws `ArithmeticException` if there are no samples");
        Check.dueThrow("no samples", ARITHMETIC, () -> none.readShare(0));
        Sentence.of("If several exceptions apply, the one that is documented first is thrown.");
        Check.dueThrow("no samples, and no such description", OUTSIDE, () -> none.readShare(1));
        Check.dueThrow("no samples, and a description below", OUTSIDE, () -> none.readShare(-1));
        Sentence.of(49, "Throws `ArithmeticException` if there are none");
        Check.dueThrow("no samples", ARITHMETIC, none::meanLength);
        none.sample();
        Check.due("one, without bytes", 0.0, none::meanLength);
        Check.due("one, which is not read", 0.0f, () -> none.readShare(0));
    }

    private static void whatIsAsked() {
        Sentence.of("A method that throws an exception changes nothing.");
        thrown(STATE, Formatseer::sample);
        thrown(ARGUMENT, seer -> seer.setLimit(0));
        Sentence.of("Samples, edits, answers and messages come by calls; classes, fields, relations and costs are"
                + " asked.");
        Formatseer seer = house("hh");
        seer.classOf(0);
        seer.isOutlier(0);
        seer.word(0, 0, 2, true);
        seer.centre(1);
        seer.cell(2, 0);
        seer.judge(2, 1);
        seer.detail(0, 0, 'p');
        seer.mask(0);
        seer.unpacked(1);
        seer.fieldAt(0, 2, 0);
        seer.fields(2, 2);
        seer.best();
        seer.differ(0, 2);
        seer.cover(2);
        seer.question();
        seer.isEcho(0, 0);
        seer.isCounter(0);
        seer.readShare(0);
        seer.byteAt(0, 0);
        seer.likeness(0, 1);
        Check.due("none of these changes anything", picture(house("hh"), "h"), () -> picture(seer, "h"));
    }
}
