import java.util.NoSuchElementException;

/** Promises 11 to 14: alignment and columns. */
public final class AlignmentTest {
    public static void main(String[] args) {
        centres();
        bytesInGaps();
        waysFromTheEnds();
        verdicts();
        wrongCalls();
        Check.end();
    }

    private static void centres() {
        Formatseer seer = new Formatseer();
        Check.sample(seer, 1, 2);
        Check.due("11: alone", 0, () -> seer.centre(0));
        Check.sample(seer, 1, 7, 8, 2);
        seer.setLimit(300);
        Check.due("11: of two the lowest number", 0, () -> seer.centre(1));
        Check.sample(seer, 1, 7, 2);
        Check.due("11: the greatest sum", 2, () -> seer.centre(0));
        Check.due("12: the centre's three and one more", 4, () -> seer.columns(0));
        Check.due("13: 0", "1 -1 -1 2", () -> Check.cellsOf(seer, 0));
        Check.due("13: 1", "1 7 8 2", () -> Check.cellsOf(seer, 1));
        Check.due("13: 2", "1 7 -1 2", () -> Check.cellsOf(seer, 2));
        seer.setAside(2, true);
        Check.due("11: without the one that is set aside", 0, () -> seer.centre(0));
        Formatseer empty = new Formatseer();
        empty.sample();
        Check.due("12: no bytes", 0, () -> empty.columns(0));
        Check.sample(empty, 5);
        empty.setLimit(1);
        Check.due("12: another class", 0, () -> empty.columns(0));
    }

    private static void bytesInGaps() {
        Formatseer seer = new Formatseer();
        Check.sample(seer, 1, 2);
        Check.sample(seer, 1, 2);
        Check.sample(seer, 1, 7, 2);
        Check.sample(seer, 1, 8, 9, 2);
        seer.setLimit(500);
        Check.due("12: as many as the most", 4, () -> seer.columns(3));
        Check.due("13: in the first ones", "1 7 -1 2", () -> Check.cellsOf(seer, 2));
        Check.due("13: the most", "1 8 9 2", () -> Check.cellsOf(seer, 3));
        Check.due("13: the centre", "1 -1 -1 2", () -> Check.cellsOf(seer, 0));
        Check.sample(seer, 1, 2, 6);
        Check.due("12: behind the last byte", 5, () -> seer.columns(0));
        Check.due("13: behind the last byte", "1 -1 -1 2 6", () -> Check.cellsOf(seer, 4));
    }

    private static void waysFromTheEnds() {
        Formatseer seer = new Formatseer();
        Check.sample(seer, 1);
        Check.sample(seer, 1, 1);
        seer.setLimit(1);
        Check.due("13: two beside one another first", "-1 1", () -> Check.cellsOf(seer, 0));
        Check.due("13: ahead of them", "1 1", () -> Check.cellsOf(seer, 1));
        Formatseer gaps = new Formatseer();
        Check.sample(gaps, 5, 6, 5);
        Check.sample(gaps, 6, 5, 6);
        gaps.setLimit(1);
        Check.due("13: a gap in the other first, the centre", "-1 5 6 5", () -> Check.cellsOf(gaps, 0));
        Check.due("13: a gap in the other first, the other", "6 5 6 -1", () -> Check.cellsOf(gaps, 1));
        Formatseer unlike = new Formatseer();
        Check.sample(unlike, 1, 2);
        Check.sample(unlike, 2, 1, 3, 3);
        Check.sample(unlike, 1, 2, 3, 3);
        unlike.setLimit(1);
        Check.due("11: the greatest sum of scores", 2, () -> unlike.centre(0));
        Check.due("13: unlike ones cost less than gaps", "2 1 3 3", () -> Check.cellsOf(unlike, 1));
    }

    private static char judged(int... bytes) {
        Formatseer seer = new Formatseer();
        for (int one : bytes) {
            Check.sample(seer, 200, 201, 202, one, 203);
        }
        return seer.judge(0, 3);
    }

    private static void verdicts() {
        Check.due("14: one", 'c', () -> judged(9));
        Check.due("14: alike", 'c', () -> judged(9, 9, 9));
        Check.due("14: rising", 'n', () -> judged(3, 5, 7));
        Check.due("14: rising letters", 'n', () -> judged(65, 66, 67));
        Check.due("14: over 255", 'n', () -> judged(254, 255, 0, 1));
        Check.due("14: falling is rising by 255", 'n', () -> judged(9, 8, 7));
        Check.due("14: by 128", 'n', () -> judged(0, 128, 0, 128));
        Check.due("14: two letters", 't', () -> judged(65, 66));
        Check.due("14: two numbers", 'r', () -> judged(1, 2));
        Check.due("14: half as many", 'e', () -> judged(1, 2, 2, 1));
        Check.due("14: half as many letters", 'e', () -> judged(65, 66, 66, 65));
        Check.due("14: more than half", 'r', () -> judged(1, 2, 2, 1, 3));
        Check.due("14: letters from 32 to 126", 't', () -> judged(32, 126, 70));
        Check.due("14: 127 is none", 'r', () -> judged(32, 127, 70));
        Check.due("14: 31 is none", 'r', () -> judged(31, 126, 70));
        Formatseer seer = new Formatseer();
        Check.sample(seer, 1, 2);
        Check.sample(seer, 1, 2);
        Check.sample(seer, 1, 9, 2);
        Check.due("14: gaps do not count", 'c', () -> seer.judge(0, 1));
        seer.setAside(0, true);
        seer.setAside(2, true);
        Check.due("14: aside ones do not count", 2, () -> seer.columns(1));
    }

    private static void wrongCalls() {
        Formatseer seer = new Formatseer();
        Check.dueThrow("11: no sample", IndexOutOfBoundsException.class, () -> seer.centre(0));
        Check.dueThrow("12: no sample", IndexOutOfBoundsException.class, () -> seer.columns(-1));
        Check.dueThrow("13: no sample", IndexOutOfBoundsException.class, () -> seer.cell(0, -1));
        Check.dueThrow("14: no sample", IndexOutOfBoundsException.class, () -> seer.judge(0, -1));
        Check.sample(seer, 4);
        Check.dueThrow("13: behind", NoSuchElementException.class, () -> seer.cell(0, 1));
        Check.dueThrow("13: ahead", NoSuchElementException.class, () -> seer.cell(0, -1));
        Check.dueThrow("14: behind", NoSuchElementException.class, () -> seer.judge(0, 1));
        Check.dueThrow("14: ahead", NoSuchElementException.class, () -> seer.judge(0, -1));
        Check.due("13: the first", 4, () -> seer.cell(0, 0));
        seer.setAside(0, true);
        Check.dueThrow("11: set aside", UnsupportedOperationException.class, () -> seer.centre(0));
        Check.dueThrow("12: set aside", UnsupportedOperationException.class, () -> seer.columns(0));
        Check.dueThrow("13: set aside", UnsupportedOperationException.class, () -> seer.cell(0, 9));
        Check.dueThrow("14: set aside", UnsupportedOperationException.class, () -> seer.judge(0, 9));
    }
}
