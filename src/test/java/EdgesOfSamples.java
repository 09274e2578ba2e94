import java.util.NoSuchElementException;

/** The cases at the edges of samples and classes, by the sentences that name them. */
final class EdgesOfSamples {
    private EdgesOfSamples() {
    }

    static void all() {
        aNewObject();
        theLastCall();
        numbersOfSamples();
        bytesOfSamples();
        places();
        asides();
        distances();
        likenesses();
        limits();
        classesOverOthers();
        outliers();
        words();
    }

    private static void aNewObject() {
        Sentence.of(1, "Creates a house without samples, descriptions, claims and messages.");
        Formatseer seer = new Formatseer();
        Check.dueThrow("no sample", IndexOutOfBoundsException.class, () -> seer.byteAt(0, 0));
        Check.dueThrow("no description", IndexOutOfBoundsException.class, () -> seer.isPossible(0));
        Check.dueThrow("no claim", IndexOutOfBoundsException.class, () -> seer.rests(0));
        Check.due("no sign in the buffer", 0, seer::clear);
        Check.due("no message: one state", 1, () -> seer.states(1));
        Check.due("the first sample", 0, seer::sample);
        Check.due("which is empty", 1, () -> seer.append(0, 7));
        Check.due("the first description", 0, () -> Check.describe(seer, "h"));
        for (int session = 0; session < 4; session++) {
            int one = session;
            Check.due("the first message of " + one, 1, () -> seer.send(one, 0, 0));
        }
        Check.due("another object has none of them", 0, () -> new Formatseer().sample());
    }

    private static void theLastCall() {
        Sentence.of("An object is used for at most 512 calls after it has been made");
        Formatseer seer = new Formatseer();
        int calls = 0;
        for (int sample = 0; sample < 10; sample++) {
            Check.sample(seer, Check.filled(40, sample % 2, sample));
            calls += 41;
        }
        for (; calls < 508; calls++) {
            seer.setAside(calls % 10, calls % 3 == 0);
        }
        Check.due("call 509", 1000, () -> seer.likeness(3, 3));
        Check.due("call 510", 40.0, seer::meanLength);
        Check.due("call 511", true, seer::isSound);
        Check.due("call 512", 1, () -> seer.type('h'));
    }

    private static void numbersOfSamples() {
        Sentence.of("At most 10 samples are numbered from 0");
        Formatseer seer = new Formatseer();
        for (int number = 0; number < 10; number++) {
            int due = number;
            Check.dueThrow("not yet", IndexOutOfBoundsException.class, () -> seer.variety(due));
            Check.due("the number", due, seer::sample);
            Check.due("it is there", 0, () -> seer.variety(due));
        }
        Check.dueThrow("an eleventh one", IllegalStateException.class, seer::sample);
        Check.dueThrow("it is not there", IndexOutOfBoundsException.class, () -> seer.variety(10));
        seer.setAside(0, true);
        Check.dueThrow("one that is set aside makes no room", IllegalStateException.class, seer::sample);
    }

    private static void bytesOfSamples() {
        Sentence.of("rows of at most 40 bytes");
        Formatseer seer = new Formatseer();
        seer.sample();
        seer.sample();
        for (int size = 1; size <= 40; size++) {
            Check.due("the size", size, () -> seer.append(0, 5));
        }
        Check.dueThrow("byte 41", IllegalStateException.class, () -> seer.append(0, 5));
        Check.dueThrow("it is not there", NoSuchElementException.class, () -> seer.byteAt(0, 40));
        Check.due("the other one has room", 1, () -> seer.append(1, 5));
        Sentence.of("rows of at most 40 bytes, 0 to 255, at places from 0 on");
        Check.due("byte 0", 2, () -> seer.append(1, 0));
        Check.due("byte 255", 3, () -> seer.append(1, 255));
        Check.dueThrow("byte -1", IllegalArgumentException.class, () -> seer.append(1, -1));
        Check.dueThrow("byte 256", IllegalArgumentException.class, () -> seer.append(1, 256));
        Check.dueThrow("a great byte", IllegalArgumentException.class, () -> seer.append(1, Integer.MAX_VALUE));
        Check.dueThrow("a least byte", IllegalArgumentException.class, () -> seer.append(1, Integer.MIN_VALUE));
        Check.due("as they were", "5 0 255", () -> Check.bytesOf(seer, 1));
    }

    private static void places() {
        Sentence.of("at places from 0 on");
        Formatseer seer = Check.seerOf(600, Check.row(8, 9), Check.row());
        Check.due("place 0", 8, () -> seer.byteAt(0, 0));
        Check.due("the last place", 9, () -> seer.byteAt(0, 1));
        Check.dueThrow("behind it", NoSuchElementException.class, () -> seer.byteAt(0, 2));
        Check.dueThrow("ahead", NoSuchElementException.class, () -> seer.byteAt(0, -1));
        Check.dueThrow("far", NoSuchElementException.class, () -> seer.byteAt(0, Integer.MAX_VALUE));
        Check.dueThrow("far ahead", NoSuchElementException.class, () -> seer.byteAt(0, Integer.MIN_VALUE));
        Check.dueThrow("no place at all", NoSuchElementException.class, () -> seer.byteAt(1, 0));
    }

    private static void asides() {
        Sentence.of("A sample can be set aside; all that is told of classes, costs, questions and covers is of samples"
                + " that are not.");
        Formatseer seer = Check.seerOf(600, Check.row(1, 5, 5, 7), Check.row(1, 5, 5), Check.row(0, 5, 5));
        Check.describe(seer, "nr0(hh)i0=1(h)");
        Check.describe(seer, "b3");
        seer.setAside(1, true);
        Check.due("the class of 0 has no other one", true, () -> seer.isOutlier(0));
        Check.due("nor does 2 come to it over that", 2, () -> seer.classOf(2));
        Check.due("the columns", "1 5 5 7", () -> Check.cellsOf(seer, 0));
        Check.due("the cost: 0 is read, 2 is not, 1 is not asked", 140 + 32 + 1000, () -> seer.cost(0));
        Check.due("the cover: 0 alone shows what is shown", 1, () -> seer.cover(0));
        Check.due("the question: the lowest number", 0, seer::question);
        seer.setAside(0, true);
        seer.setAside(1, false);
        Check.due("the question without 0", 1, seer::question);
        Check.due("it reads one that is set aside", -1, () -> seer.read(0, 0));
        Check.due("the share is of all", 1.0f / 3.0f, () -> seer.readShare(0));
        seer.setAside(1, true);
        seer.setAside(2, true);
        Check.due("the cost of signs alone", 140, () -> seer.cost(0));
        Check.due("the cover of none", 0, () -> seer.cover(0));
        Check.dueThrow("no question", NoSuchElementException.class, seer::question);
        Sentence.of(5, "Returns whether it was.");
        Check.due("it was", true, () -> seer.setAside(2, true));
        Check.due("it was, and is not", true, () -> seer.setAside(2, false));
        Check.due("it was not", false, () -> seer.setAside(2, false));
        Check.due("it was not, and is", false, () -> seer.setAside(2, true));
        Check.due("the others are as they were", true, () -> seer.setAside(0, true));
    }

    private static int likeness(int[] first, int[] second) {
        Formatseer seer = Check.seerOf(600, first, second);
        int likeness = seer.likeness(0, 1);
        return seer.likeness(1, 0) == likeness ? likeness : -1;
    }

    private static void distances() {
        Sentence.of("The distance of two samples is the least number of bytes to change, to add and to leave out so"
                + " that"
                + " one becomes the other one.");
        Check.due("none", 1000, () -> likeness(Check.row(1, 2), Check.row(1, 2)));
        Check.due("one to change", 500, () -> likeness(Check.row(1, 2), Check.row(1, 3)));
        Check.due("one to add, at the end", 500, () -> likeness(Check.row(1), Check.row(1, 2)));
        Check.due("one to add, at the beginning", 500, () -> likeness(Check.row(2), Check.row(1, 2)));
        Check.due("one to leave out and one to add, not four to change", 500,
                () -> likeness(Check.row(1, 2, 3, 4), Check.row(2, 3, 4, 5)));
        Check.due("two to change, not four to leave out and to add", 0,
                () -> likeness(Check.row(1, 2), Check.row(3, 4)));
        Check.due("all 40 to change", 0, () -> likeness(Check.filled(40, 1), Check.filled(40, 2)));
        Check.due("all 40 to add", 0, () -> likeness(Check.filled(40, 1), Check.row()));
        Check.due("39 to add", 25, () -> likeness(Check.filled(40, 1), Check.row(1)));
    }

    private static void likenesses() {
        Sentence.of("Their likeness is 1000 less what 1000 times the distance gives, divided by the length of the"
                + " longer"
                + " one and rounded down");
        Check.due("1 of 3", 667, () -> likeness(Check.row(1, 2, 3), Check.row(1, 2, 4)));
        Check.due("2 of 3", 334, () -> likeness(Check.row(1, 2, 3), Check.row(1)));
        Check.due("1 of 7", 858, () -> likeness(Check.row(1, 2, 3, 4, 5, 6, 7), Check.row(1, 2, 3, 4, 5, 6)));
        Check.due("1 of 40", 975, () -> likeness(Check.filled(40, 1), Check.filled(40, 1, 2)));
        Check.due("1 of 39", 975, () -> likeness(Check.filled(39, 1), Check.filled(39, 1, 2)));
        Sentence.of("1000 if both are empty");
        Check.due("both", 1000, () -> likeness(Check.row(), Check.row()));
        Check.due("one", 0, () -> likeness(Check.row(), Check.row(0)));
        Sentence.of(7, "- `second`: the number of another one, or the same one");
        Formatseer seer = Check.seerOf(600, Check.row(), Check.row(4, 5));
        Check.due("the same one", 1000, () -> seer.likeness(1, 1));
        Check.due("the same one, empty", 1000, () -> seer.likeness(0, 0));
    }

    private static boolean areOneClass(int limit, int[] first, int[] second) {
        return Check.seerOf(limit, first, second).classOf(1) == 0;
    }

    private static void limits() {
        Sentence.of("Samples are of one class if their likeness is at least the limit, 600 at first");
        Formatseer first = new Formatseer();
        Check.sample(first, 1, 2, 3, 4, 5);
        Check.sample(first, 1, 2, 3, 8, 9);
        Check.due("600", 600, () -> first.likeness(0, 1));
        Check.due("600 is enough at first", 0, () -> first.classOf(1));
        Check.sample(first, Check.filled(37, 7));
        Check.sample(first, Check.filled(37, 7, 20, 21, 22, 23, 24, 25, 26, 27, 28, 29, 30, 31, 32, 33, 34));
        Check.due("595", 595, () -> first.likeness(2, 3));
        Check.due("595 is not enough", 3, () -> first.classOf(3));
        int[] one = Check.row(1, 2, 3);
        int[] other = Check.row(1, 2, 4);
        Check.due("at the limit", true, () -> areOneClass(667, one, other));
        Check.due("below it", false, () -> areOneClass(668, one, other));
        Check.due("limit 1, likeness 0", false, () -> areOneClass(1, Check.row(1), Check.row(2)));
        Check.due("limit 1, likeness 25", true, () -> areOneClass(1, Check.filled(40, 1), Check.row(1)));
        Check.due("limit 1000, alike", true, () -> areOneClass(1000, one, one));
        Check.due("limit 1000, empty ones", true, () -> areOneClass(1000, Check.row(), Check.row()));
        Check.due("limit 1000, one byte of 40", false,
                () -> areOneClass(1000, Check.filled(40, 1), Check.filled(40, 1, 2)));
        Check.due("an empty one and another one", false, () -> areOneClass(1, Check.row(), Check.row(0)));
        Sentence.of(6, "- `limit`: the limit, 1 to 1000");
        Formatseer seer = new Formatseer();
        Check.due("1000, and 600 before", 600, () -> seer.setLimit(1000));
        Check.due("1, and 1000 before", 1000, () -> seer.setLimit(1));
        for (int limit : new int[] {0, -1, 1001, Integer.MAX_VALUE, Integer.MIN_VALUE}) {
            Check.dueThrow("limit " + limit, IllegalArgumentException.class, () -> seer.setLimit(limit));
        }
        Check.due("1 is still the one before", 1, () -> seer.setLimit(2));
        Check.due("2 before", 2, () -> seer.setLimit(2));
    }

    private static void classesOverOthers() {
        Sentence.of("or if they are so over others");
        int[] order = {9, 0, 5, 3, 7, 1, 8, 2, 6, 4};
        int[][] rows = new int[10][];
        for (int step = 0; step < 10; step++) {
            rows[order[step]] = Check.row(10 + step, 11 + step, 12 + step, 13 + step, 14 + step);
        }
        Formatseer seer = Check.seerOf(600, rows);
        Check.due("neighbours", 600, () -> seer.likeness(order[4], order[5]));
        Check.due("ends of the chain", 0, () -> seer.likeness(order[0], order[9]));
        for (int sample = 0; sample < 10; sample++) {
            int one = sample;
            Check.due("all ten are one class", 0, () -> seer.classOf(one));
        }
        seer.setAside(order[5], true);
        Check.due("the chain is cut: one side", 0, () -> seer.classOf(order[0]));
        Check.due("the chain is cut: other side", 2, () -> seer.classOf(order[9]));
        Sentence.of(8, "Returns the lowest number of a sample of it.");
        Check.due("its own", 0, () -> seer.classOf(0));
        seer.setAside(0, true);
        Check.due("of those that are not set aside", 9, () -> seer.classOf(9));
        Check.due("the lowest of three", 3, () -> seer.classOf(5));
    }

    private static void outliers() {
        Sentence.of(9, "Returns whether a sample is alone in its class, and there are others.");
        Formatseer seer = Check.seerOf(600, Check.row(1));
        Check.due("alone, and there are no others", false, () -> seer.isOutlier(0));
        Check.sample(seer, 2);
        Check.due("alone, and there is one", true, () -> seer.isOutlier(0));
        Check.due("so is that one", true, () -> seer.isOutlier(1));
        Check.sample(seer, 1);
        Check.due("two in the class", false, () -> seer.isOutlier(0));
        Check.due("the other one is still alone", true, () -> seer.isOutlier(1));
        seer.setAside(2, true);
        Check.due("the second one of the class is set aside", true, () -> seer.isOutlier(0));
        seer.setAside(1, true);
        Check.due("all others are set aside", false, () -> seer.isOutlier(0));
    }

    private static void words() {
        Sentence.of(10, "- `size`: 2 or 4");
        Formatseer seer = Check.seerOf(600, Check.row(255, 255, 255, 255, 1), Check.row(1, 2), Check.row());
        Check.due("2", 65535L, () -> seer.word(0, 0, 2, true));
        Check.due("4, which is not below 0", 4294967295L, () -> seer.word(0, 0, 4, false));
        for (int size : new int[] {-4, -2, 0, 1, 3, 5, 8, Integer.MAX_VALUE, Integer.MIN_VALUE}) {
            Check.dueThrow("size " + size, IllegalArgumentException.class, () -> seer.word(0, 0, size, true));
        }
        Sentence.of(10, "- `isBig`: whether the greatest one is first");
        Check.due("first", 258L, () -> seer.word(1, 0, 2, true));
        Check.due("last", 513L, () -> seer.word(1, 0, 2, false));
        Check.due("four, first", 4294967041L, () -> seer.word(0, 1, 4, true));
        Check.due("four, last", 33554431L, () -> seer.word(0, 1, 4, false));
        Sentence.of(10, "if there are not so many bytes from there");
        Check.due("just so many", 65281L, () -> seer.word(0, 3, 2, true));
        Check.dueThrow("one from there", NoSuchElementException.class, () -> seer.word(0, 4, 2, true));
        Check.dueThrow("none from there", NoSuchElementException.class, () -> seer.word(0, 5, 2, true));
        Check.dueThrow("three from there", NoSuchElementException.class, () -> seer.word(0, 2, 4, true));
        Check.dueThrow("too few at all", NoSuchElementException.class, () -> seer.word(1, 0, 4, true));
        Check.dueThrow("no bytes", NoSuchElementException.class, () -> seer.word(2, 0, 2, true));
        Check.dueThrow("ahead", NoSuchElementException.class, () -> seer.word(0, -1, 2, true));
        Check.dueThrow("far", NoSuchElementException.class, () -> seer.word(0, Integer.MAX_VALUE, 4, true));
        Check.dueThrow("far ahead", NoSuchElementException.class, () -> seer.word(0, Integer.MIN_VALUE, 4, true));
    }
}
