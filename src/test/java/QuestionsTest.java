import java.util.NoSuchElementException;

/** Promises 39 to 41: questions. */
public final class QuestionsTest {
    public static void main(String[] args) {
        answers();
        possibleOnes();
        questions();
        Check.end();
    }

    private static void answers() {
        Formatseer seer = new Formatseer();
        Check.dueThrow("39: no sample", IndexOutOfBoundsException.class, () -> seer.answer(0, true));
        Check.sample(seer, 1);
        Check.sample(seer, 1, 2);
        Check.due("39: no descriptions", 0, () -> seer.answer(0, true));
        Check.describe(seer, "h");
        Check.describe(seer, "b2");
        Check.describe(seer, "c1");
        Check.due("39: two read it", 2, () -> seer.answer(0, true));
        Check.due("40: the first", true, () -> seer.isPossible(0));
        Check.due("40: the second one reads otherwise", false, () -> seer.isPossible(1));
        Check.due("39: an answer again changes nothing", 2, () -> seer.answer(0, true));
        Check.due("39: none reads it, none should", 2, () -> seer.answer(1, false));
        Check.due("39: those who know say otherwise now", 0, () -> seer.answer(0, false));
        Check.dueThrow("39: below", IndexOutOfBoundsException.class, () -> seer.answer(-1, true));
        Check.describe(seer, "h");
        seer.setAside(0, true);
        Check.due("39: of one that is set aside", 0, () -> seer.answer(0, false));
    }

    private static void possibleOnes() {
        Formatseer seer = new Formatseer();
        Check.dueThrow("40: no description", IndexOutOfBoundsException.class, () -> seer.isPossible(0));
        Check.sample(seer, 1);
        Check.describe(seer, "b2");
        Check.due("40: at first", true, () -> seer.isPossible(0));
        seer.answer(0, true);
        Check.due("40: not any more", false, () -> seer.isPossible(0));
        seer.append(0, 2);
        Check.due("40: answers are of the sample as it was", false, () -> seer.isPossible(0));
        Check.type(seer, "b2");
        seer.edit(0);
        Check.due("40: edited", true, () -> seer.isPossible(0));
        seer.find(0);
        Check.due("40: found", true, () -> seer.isPossible(1));
        Check.describe(seer, "hhh");
        Check.due("40: described behind answers", true, () -> seer.isPossible(2));
        Check.dueThrow("40: no fourth", IndexOutOfBoundsException.class, () -> seer.isPossible(3));
    }

    private static void questions() {
        Formatseer seer = new Formatseer();
        Check.dueThrow("41: nothing at all", NoSuchElementException.class, seer::question);
        Check.sample(seer, 9, 9, 9);
        Check.sample(seer, 1);
        Check.sample(seer, 1, 2);
        Check.sample(seer, 5, 6);
        Check.describe(seer, "h");
        Check.dueThrow("41: one description", NoSuchElementException.class, seer::question);
        Check.describe(seer, "b1");
        Check.dueThrow("41: all read alike", NoSuchElementException.class, seer::question);
        Check.describe(seer, "hh");
        Check.due("41: the lowest number", 1, seer::question);
        Check.describe(seer, "c1h");
        Check.due("41: two and two", 1, seer::question);
        Check.describe(seer, "b2");
        Check.describe(seer, "c1c2");
        seer.answer(0, false);
        Check.due("41: two and four each time", 1, seer::question);
        Check.type(seer, "c5h");
        seer.edit(5);
        Check.due("41: three and three are more", 2, seer::question);
        seer.setAside(2, true);
        Check.due("41: not one that is set aside", 3, seer::question);
        seer.answer(3, true);
        Check.dueThrow("41: the possible ones are not parted", NoSuchElementException.class, seer::question);
        seer.setAside(2, false);
        Check.due("41: the possible ones alone", 2, seer::question);
    }
}
