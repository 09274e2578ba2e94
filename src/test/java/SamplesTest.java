import java.util.NoSuchElementException;

/** Promises 1 to 10: samples and classes. */
public final class SamplesTest {
    public static void main(String[] args) {
        aNewObject();
        samples();
        bytes();
        asides();
        limits();
        likenesses();
        classes();
        outliers();
        words();
        Check.end();
    }

    private static void aNewObject() {
        Formatseer seer = new Formatseer();
        Check.dueThrow("1: no samples", IndexOutOfBoundsException.class, () -> seer.classOf(0));
        Check.dueThrow("1: no descriptions", NoSuchElementException.class, seer::best);
        Check.dueThrow("1: no claims", IndexOutOfBoundsException.class, () -> seer.stands(0));
        Check.due("1: no messages", 1, () -> seer.states(3));
        Check.due("1: an empty buffer", 0, seer::clear);
        Check.due("1: no bytes", 0L, seer::checksum);
    }

    private static void samples() {
        Formatseer seer = new Formatseer();
        for (int number = 0; number < 10; number++) {
            Check.due("2: sample", number, seer::sample);
        }
        Check.dueThrow("2: an eleventh sample", IllegalStateException.class, seer::sample);
        Check.due("2: the last one is there", 1, () -> seer.append(9, 0));
        Check.dueThrow("2: no eleventh one", IndexOutOfBoundsException.class, () -> seer.append(10, 0));
    }

    private static void bytes() {
        Formatseer seer = new Formatseer();
        Check.dueThrow("3: no sample, wrong byte", IndexOutOfBoundsException.class, () -> seer.append(0, 256));
        seer.sample();
        Check.dueThrow("3: below", IndexOutOfBoundsException.class, () -> seer.append(-1, 0));
        Check.dueThrow("3: byte 256", IllegalArgumentException.class, () -> seer.append(0, 256));
        Check.dueThrow("3: byte -1", IllegalArgumentException.class, () -> seer.append(0, -1));
        for (int count = 1; count <= 40; count++) {
            int value = count == 40 ? 255 : count - 1;
            Check.due("3: append", count, () -> seer.append(0, value));
        }
        Check.dueThrow("3: a byte too many", IllegalStateException.class, () -> seer.append(0, 0));
        Check.dueThrow("3: a wrong byte too many", IllegalArgumentException.class, () -> seer.append(0, 300));
        Check.due("4: first", 0, () -> seer.byteAt(0, 0));
        Check.due("4: last", 255, () -> seer.byteAt(0, 39));
        Check.dueThrow("4: behind", NoSuchElementException.class, () -> seer.byteAt(0, 40));
        Check.dueThrow("4: ahead", NoSuchElementException.class, () -> seer.byteAt(0, -1));
        Check.dueThrow("4: no sample", IndexOutOfBoundsException.class, () -> seer.byteAt(1, 0));
        seer.sample();
        Check.dueThrow("4: an empty sample", NoSuchElementException.class, () -> seer.byteAt(1, 0));
    }

    private static void asides() {
        Formatseer seer = new Formatseer();
        Check.dueThrow("5: no sample", IndexOutOfBoundsException.class, () -> seer.setAside(0, true));
        seer.sample();
        Check.due("5: was not", false, () -> seer.setAside(0, true));
        Check.due("5: was", true, () -> seer.setAside(0, true));
        Check.dueThrow("5: no class", UnsupportedOperationException.class, () -> seer.classOf(0));
        Check.due("5: was, and comes back", true, () -> seer.setAside(0, false));
        Check.due("5: was not any more", false, () -> seer.setAside(0, false));
        Check.due("5: a class again", 0, () -> seer.classOf(0));
    }

    private static void limits() {
        Formatseer seer = new Formatseer();
        Check.due("6: at first", 600, () -> seer.setLimit(1000));
        Check.due("6: before", 1000, () -> seer.setLimit(1));
        Check.dueThrow("6: too low", IllegalArgumentException.class, () -> seer.setLimit(0));
        Check.dueThrow("6: too high", IllegalArgumentException.class, () -> seer.setLimit(1001));
        Check.due("6: a throw changes nothing", 1, () -> seer.setLimit(600));
    }

    private static void likenesses() {
        Formatseer seer = new Formatseer();
        seer.sample();
        seer.sample();
        Check.sample(seer, 1, 2, 3);
        Check.sample(seer, 1, 2);
        Check.sample(seer, 2, 3, 4);
        Check.sample(seer, 1, 9, 3, 4, 5, 6, 7);
        Check.due("7: both empty", 1000, () -> seer.likeness(0, 1));
        Check.due("7: one empty", 0, () -> seer.likeness(0, 2));
        Check.due("7: the same one", 1000, () -> seer.likeness(2, 2));
        Check.due("7: one left out", 667, () -> seer.likeness(2, 3));
        Check.due("7: one left out and one added", 334, () -> seer.likeness(2, 4));
        Check.due("7: one changed, four added", 286, () -> seer.likeness(5, 2));
        seer.setAside(2, true);
        Check.due("7: of one that is set aside", 667, () -> seer.likeness(3, 2));
        Check.dueThrow("7: no first", IndexOutOfBoundsException.class, () -> seer.likeness(6, 0));
        Check.dueThrow("7: no second", IndexOutOfBoundsException.class, () -> seer.likeness(0, -1));
    }

    private static void classes() {
        Formatseer seer = new Formatseer();
        Check.dueThrow("8: no sample", IndexOutOfBoundsException.class, () -> seer.classOf(0));
        Check.sample(seer, 9, 9, 9, 9, 9);
        Check.sample(seer, 1, 2, 3, 4, 5);
        Check.sample(seer, 1, 2, 7, 8, 6);
        Check.sample(seer, 1, 2, 3, 8, 6);
        Check.due("8: 2 is in class 1 over 3", 1, () -> seer.classOf(2));
        Check.due("8: 3 is so at the limit itself", 1, () -> seer.classOf(3));
        Check.due("8: 0 is alone", 0, () -> seer.classOf(0));
        seer.setAside(3, true);
        Check.due("8: not over one that is set aside", 2, () -> seer.classOf(2));
        Check.dueThrow("8: set aside", UnsupportedOperationException.class, () -> seer.classOf(3));
        seer.setAside(3, false);
        seer.setLimit(601);
        Check.due("8: below the limit", 2, () -> seer.classOf(3));
        seer.setAside(2, true);
        Check.due("8: the lowest number that is not aside", 3, () -> seer.classOf(3));
    }

    private static void outliers() {
        Formatseer seer = new Formatseer();
        Check.dueThrow("9: no sample", IndexOutOfBoundsException.class, () -> seer.isOutlier(0));
        Check.sample(seer, 1, 2, 3);
        Check.due("9: there are no others", false, () -> seer.isOutlier(0));
        Check.sample(seer, 7, 8, 9);
        Check.due("9: alone", true, () -> seer.isOutlier(0));
        seer.setAside(1, true);
        Check.due("9: others are set aside", false, () -> seer.isOutlier(0));
        Check.dueThrow("9: set aside", UnsupportedOperationException.class, () -> seer.isOutlier(1));
        seer.setAside(1, false);
        Check.sample(seer, 1, 2, 3);
        Check.due("9: not alone", false, () -> seer.isOutlier(0));
        Check.due("9: still alone", true, () -> seer.isOutlier(1));
    }

    private static void words() {
        Formatseer seer = new Formatseer();
        Check.dueThrow("10: no sample", IndexOutOfBoundsException.class, () -> seer.word(0, 0, 3, true));
        Check.sample(seer, 255, 1, 2, 254, 3);
        Check.due("10: two, greatest first", 65281L, () -> seer.word(0, 0, 2, true));
        Check.due("10: two, least first", 511L, () -> seer.word(0, 0, 2, false));
        Check.due("10: four, greatest first", 4278256382L, () -> seer.word(0, 0, 4, true));
        Check.due("10: four, least first", 4261544447L, () -> seer.word(0, 0, 4, false));
        Check.due("10: the last two", 65027L, () -> seer.word(0, 3, 2, true));
        Check.due("10: the last four", 16973315L, () -> seer.word(0, 1, 4, true));
        Check.dueThrow("10: one too far", NoSuchElementException.class, () -> seer.word(0, 4, 2, true));
        Check.dueThrow("10: four too far", NoSuchElementException.class, () -> seer.word(0, 2, 4, true));
        Check.dueThrow("10: ahead", NoSuchElementException.class, () -> seer.word(0, -1, 2, true));
        Check.dueThrow("10: far", NoSuchElementException.class, () -> seer.word(0, Integer.MAX_VALUE, 2, true));
        Check.dueThrow("10: size 3, far", IllegalArgumentException.class, () -> seer.word(0, 9, 3, true));
        Check.dueThrow("10: size 0", IllegalArgumentException.class, () -> seer.word(0, 0, 0, true));
        Check.dueThrow("10: size 8", IllegalArgumentException.class, () -> seer.word(0, 0, 8, false));
    }
}
