import java.util.NoSuchElementException;

/** The cases at the edges of alignment and columns, by the sentences that name them. */
final class EdgesOfAlignment {
    private EdgesOfAlignment() {
    }

    static void all() {
        gapsAndScores();
        centres();
        ways();
        bytesBesideGaps();
        columnsOfTheCentre();
        columnNumbers();
        orderOfVerdicts();
        verdictsOfNumbers();
        verdictsOfFewAndLetters();
    }

    private static String cells(int[]... rows) {
        Formatseer seer = Check.seerOf(1, rows);
        StringBuilder cells = new StringBuilder();
        for (int sample = 0; sample < rows.length; sample++) {
            cells.append(sample == 0 ? "" : " / ").append(Check.cellsOf(seer, sample));
        }
        return cells.toString();
    }

    private static void gapsAndScores() {
        Sentence.of("Two samples are aligned by putting gaps into both, not at the same place");
        Check.due("into both", "-1 5 6 5 / 6 5 6 -1", () -> cells(Check.row(5, 6, 5), Check.row(6, 5, 6)));
        Check.due("into none", "1 2 / 1 3", () -> cells(Check.row(1, 2), Check.row(1, 3)));
        Sentence.of("two like bytes beside one another give 2, two others -1, a byte beside a gap -2");
        Check.due("two others beside one another are dearer than a like pair and two gaps",
                "-1 1 2 3 / 4 1 2 -1", () -> cells(Check.row(1, 2, 3), Check.row(4, 1, 2)));
        Check.due("one pair of others is cheaper than two gaps", "1 2 3 / 1 4 3",
                () -> cells(Check.row(1, 2, 3), Check.row(1, 4, 3)));
        Check.due("two pairs of others, and one like pair with two gaps: as good, so beside one another",
                "1 2 7 / 2 3 7", () -> cells(Check.row(1, 2, 7), Check.row(2, 3, 7)));
        Check.due("two others are dearer than that with three like pairs and four gaps",
                "-1 -1 1 2 3 4 5 / 8 9 1 2 3 -1 -1",
                () -> cells(Check.row(1, 2, 3, 4, 5), Check.row(8, 9, 1, 2, 3)));
        Check.due("with two like pairs and four gaps it is as good", "1 2 3 4 / 8 9 1 2",
                () -> cells(Check.row(1, 2, 3, 4), Check.row(8, 9, 1, 2)));
        Sentence.of("The score is the greatest sum.");
        Check.due("scores 6, 1 and 0 make 2 the centre", 2, () -> Check.seerOf(1,
                Check.row(1, 2), Check.row(2, 1, 3, 3), Check.row(1, 2, 3, 3)).centre(0));
    }

    private static void centres() {
        Sentence.of("The centre of a class is the sample with the greatest sum of scores with the others of it");
        Check.due("a class of one sample", 0, () -> Check.seerOf(600, Check.row(1, 2)).centre(0));
        Check.due("one empty sample", 0, () -> Check.seerOf(600, Check.row()).centre(0));
        Check.due("each class has its own", 1, () -> Check.seerOf(600, Check.row(1, 2), Check.row(3, 4)).centre(1));
        int[][] below = {Check.row(1, 2, 3, 4), Check.row(1, 5, 6, 7), Check.row(8, 5, 9, 10)};
        Check.due("all sums are below 0: -5, -2 and -5", 1, () -> Check.seerOf(1, below).centre(2));
        Check.due("those of other classes do not count", 2, () -> Check.seerOf(600, Check.row(50, 51, 52),
                Check.row(1, 2, 3, 4, 9), Check.row(1, 2, 3, 4, 5), Check.row(1, 2, 3, 4, 5, 6)).centre(1));
        Sentence.of("of several the lowest number. Each of the others");
        Check.due("two are always as good", 0, () -> Check.seerOf(1, Check.row(1, 2), Check.row(1, 2, 3)).centre(1));
        Check.due("two empty ones", 0, () -> Check.seerOf(1, Check.row(), Check.row()).centre(1));
        Check.due("1 and 2 are as good, 0 is less", 1, () -> Check.seerOf(1,
                Check.row(1, 2, 3, 4, 9), Check.row(1, 2, 3, 4, 5), Check.row(1, 2, 3, 4, 5)).centre(0));
        Check.due("the last one is best", 2, () -> Check.seerOf(1,
                Check.row(1, 2, 3, 9, 5), Check.row(1, 2, 8, 4, 5), Check.row(1, 2, 3, 4, 5)).centre(0));
        Formatseer seer = Check.seerOf(1, Check.row(1, 2, 3), Check.row(1, 2, 3, 4), Check.row(1, 2, 3, 4));
        Check.due("1, before it is set aside", 1, () -> seer.centre(0));
        seer.setAside(1, true);
        Check.due("of the two that are left", 0, () -> seer.centre(2));
    }

    private static void ways() {
        Sentence.of("of several ways, from their ends on: two bytes beside one another before a gap in the other"
                + " sample");
        Check.due("the last byte of the centre beside the only one", "1 1 / -1 1",
                () -> cells(Check.row(1, 1), Check.row(1)));
        Check.due("the last ones of three", "1 1 1 / -1 -1 1", () -> cells(Check.row(1, 1, 1), Check.row(1)));
        Check.due("others beside one another too", "1 2 / 2 3", () -> cells(Check.row(1, 2), Check.row(2, 3)));
        Sentence.of("and this before a gap in the centre");
        Check.due("the centre ends beside a gap, not the other one", "-1 1 2 3 1 / 3 1 2 -1 -1 / -1 1 2 3 1",
                () -> cells(Check.row(1, 2, 3, 1), Check.row(3, 1, 2), Check.row(1, 2, 3, 1)));
        Check.due("two bytes beside one another before a gap in the centre", "-1 1 / 1 1",
                () -> cells(Check.row(1), Check.row(1, 1)));
        Sentence.of("The gap in the other sample is one beside a byte of the centre.");
        Check.due("5 of the centre ends beside it", "-1 5 6 5 / 6 5 6 -1",
                () -> cells(Check.row(5, 6, 5), Check.row(6, 5, 6)));
    }

    private static void bytesBesideGaps() {
        Sentence.of("Ahead of each byte of the centre, and behind the last one, there are as many columns more as"
                + " the most"
                + " bytes that one of the others has there beside gaps");
        int[] two = Check.row(1, 2);
        Check.due("ahead of the first byte", "-1 1 2 / -1 1 2 / 9 1 2",
                () -> cells(two, two, Check.row(9, 1, 2)));
        Check.due("ahead of the second one", "1 -1 2 / 1 -1 2 / 1 9 2",
                () -> cells(two, two, Check.row(1, 9, 2)));
        Check.due("behind the last one", "1 2 -1 / 1 2 -1 / 1 2 9",
                () -> cells(two, two, Check.row(1, 2, 9)));
        Check.due("the most of several, not the sum", 4,
                () -> Check.seerOf(1, two, two, two, Check.row(9, 1, 2), Check.row(8, 7, 1, 2)).columns(0));
        Check.due("at all three places at once", 6, () -> Check.seerOf(1, two, two, two,
                Check.row(9, 1, 2), Check.row(1, 8, 2), Check.row(1, 2, 7), Check.row(1, 2, 6, 6)).columns(0));
        Check.due("none", 2, () -> Check.seerOf(1, two, two, Check.row(1)).columns(0));
        Check.due("the first one is not the centre", "1 -1 -1 2 / 1 7 8 2 / 1 7 -1 2",
                () -> cells(two, Check.row(1, 7, 8, 2), Check.row(1, 7, 2)));
        Check.due("the first one is longer than the centre", "1 9 2 / 1 -1 2 / 1 -1 2",
                () -> cells(Check.row(1, 9, 2), two, two));
        Check.due("ahead of the third byte", "1 2 -1 3 / 1 2 -1 3 / 1 2 9 3",
                () -> cells(Check.row(1, 2, 3), Check.row(1, 2, 3), Check.row(1, 2, 9, 3)));
        Formatseer seer = Check.seerOf(1, two, two, Check.row(1, 9, 2));
        Check.due("three", 3, () -> seer.columns(0));
        seer.setAside(2, true);
        Check.due("it is set aside, and its column is gone", 2, () -> seer.columns(0));
        Sentence.of("these bytes stand in the first ones of them");
        Check.due("ahead", "-1 -1 1 2 / -1 -1 1 2 / -1 -1 1 2 / 9 -1 1 2 / 8 7 1 2",
                () -> cells(two, two, two, Check.row(9, 1, 2), Check.row(8, 7, 1, 2)));
        Check.due("behind", "1 2 -1 -1 / 1 2 -1 -1 / 1 2 -1 -1 / 1 2 9 -1 / 1 2 8 7",
                () -> cells(two, two, two, Check.row(1, 2, 9), Check.row(1, 2, 8, 7)));
        Check.due("between", "1 -1 -1 2 / 1 -1 -1 2 / 1 -1 -1 2 / 1 9 -1 2 / 1 8 7 2",
                () -> cells(two, two, two, Check.row(1, 9, 2), Check.row(1, 8, 7, 2)));
        Check.due("between, the most ahead of the fewer ones", "1 -1 -1 2 / 1 -1 -1 2 / 1 -1 -1 2 / 1 8 7 2 / 1 9 -1 2",
                () -> cells(two, two, two, Check.row(1, 8, 7, 2), Check.row(1, 9, 2)));
    }

    private static void columnsOfTheCentre() {
        Sentence.of("All other columns are those of the bytes of the centre.");
        Check.due("one sample", "7 8 9", () -> cells(Check.row(7, 8, 9)));
        Check.due("one byte", "7", () -> cells(Check.row(7)));
        Check.due("no bytes", "", () -> cells(Check.row()));
        Check.due("two samples without bytes", 0, () -> Check.seerOf(1, Check.row(), Check.row()).columns(1));
        Check.due("shorter ones make no more", "1 2 3 / 1 -1 3 / 1 2 3",
                () -> cells(Check.row(1, 2, 3), Check.row(1, 3), Check.row(1, 2, 3)));
        int[] full = Check.filled(40, 5);
        Check.due("40 bytes", 40, () -> Check.seerOf(600, full, full).columns(1));
        int[] rising = new int[40];
        int[] later = Check.filled(40, 200);
        int[] sooner = Check.filled(40, 201);
        for (int place = 0; place < 40; place++) {
            rising[place] = place;
            later[Math.min(place + 4, 39)] = Math.min(place, 35);
            sooner[Math.max(place - 4, 0)] = Math.max(place, 4);
        }
        Formatseer shifted = Check.seerOf(1, rising, later, sooner);
        Check.due("the centre of them", 0, () -> shifted.centre(2));
        Check.due("40 bytes, 4 ahead of the first and 4 behind the last one", 48, () -> shifted.columns(0));
        for (int column = 0; column < 4; column++) {
            int one = column;
            Check.due("one of those ahead", 200, () -> shifted.cell(1, one));
            Check.due("one of those behind", 201, () -> shifted.cell(2, 44 + one));
        }
        Check.due("the first of the centre", 0, () -> shifted.cell(0, 4));
        Check.due("the last of the centre", 39, () -> shifted.cell(0, 43));
        Check.due("a gap beside it", -1, () -> shifted.cell(1, 43));
        Check.due("a byte beside it", 39, () -> shifted.cell(2, 43));
        Formatseer twice = Check.seerOf(1, rising, later, later);
        twice.setAside(0, true);
        Check.due("without it", 40, () -> twice.columns(2));
        twice.setAside(0, false);
        twice.setAside(1, true);
        Check.due("with it", 44, () -> twice.columns(2));
        Check.due("the third one of those ahead", 200, () -> twice.cell(2, 2));
        Formatseer wide = new Formatseer();
        for (int sample = 0; sample < 5; sample++) {
            Check.sample(wide, 1, 2, 3, 4);
        }
        for (int place = 0; place <= 4; place++) {
            int[] row = Check.filled(40, 50 + place);
            for (int one = 1; one <= 4; one++) {
                row[one <= place ? one - 1 : one + 35] = one;
            }
            Check.sample(wide, row);
        }
        wide.setLimit(1);
        Check.due("36 more at each place", 184, () -> wide.columns(9));
        Check.due("the last of them", 54, () -> wide.cell(9, 183));
        Check.due("the first of them", 50, () -> wide.cell(5, 0));
    }

    private static void columnNumbers() {
        Sentence.of(13, "- `column`: the column, from 0");
        Formatseer seer = Check.seerOf(1, Check.row(1, 2), Check.row(1, 2), Check.row(1, 2, 3), Check.row());
        Check.due("the first", 1, () -> seer.cell(0, 0));
        Check.due("the last, a gap", -1, () -> seer.cell(0, 2));
        Check.due("the last, a byte", 3, () -> seer.cell(2, 2));
        for (int column : new int[] {-1, 3, 40, Integer.MAX_VALUE, Integer.MIN_VALUE}) {
            Check.dueThrow("column " + column, NoSuchElementException.class, () -> seer.cell(0, column));
        }
        Check.dueThrow("no column at all", NoSuchElementException.class, () -> seer.cell(3, 0));
        Sentence.of(14, "- `column`: the column, from 0");
        Check.due("the first", 'c', () -> seer.judge(0, 0));
        Check.due("the last", 'c', () -> seer.judge(0, 2));
        for (int column : new int[] {-1, 3, 40, Integer.MAX_VALUE, Integer.MIN_VALUE}) {
            Check.dueThrow("column " + column, NoSuchElementException.class, () -> seer.judge(0, column));
        }
        Check.dueThrow("no column at all", NoSuchElementException.class, () -> seer.judge(3, 0));
        Sentence.of(12, "Returns the number of columns.");
        Check.due("three", 3, () -> seer.columns(1));
        Check.due("none", 0, () -> seer.columns(3));
        Sentence.of(11, "Returns the number of the centre.");
        Check.due("of three", 0, () -> seer.centre(2));
        Check.due("of one", 3, () -> seer.centre(3));
    }

    /** What a column is judged to be that has these bytes, by rising numbers of samples. */
    private static char judged(int... bytes) {
        Formatseer seer = new Formatseer();
        for (int one : bytes) {
            Check.sample(seer, 200, 201, 202, one, 203);
        }
        return seer.judge(0, 3);
    }

    private static void orderOfVerdicts() {
        Sentence.of("A column is judged by its bytes, by rising numbers of samples: 'c' if all are alike");
        Check.due("one byte", 'c', () -> judged(7));
        Check.due("two alike", 'c', () -> judged(7, 7));
        Check.due("three alike, which rise by 0", 'c', () -> judged(7, 7, 7));
        Check.due("letters alike", 'c', () -> judged(65, 65, 65, 65));
        Check.due("the last one of ten is another", 'e', () -> judged(7, 7, 7, 7, 7, 7, 7, 7, 7, 8));
        Formatseer seer = Check.seerOf(1, Check.row(1, 2), Check.row(1, 2), Check.row(1, 9, 2));
        Check.due("one byte and two gaps", 'c', () -> seer.judge(0, 1));
        Check.due("by numbers: 5 7 9", 'n', () -> judged(5, 7, 9));
        Check.due("not by sizes: 5 9 7", 'r', () -> judged(5, 9, 7));
        Formatseer mixed = new Formatseer();
        for (int step = 0; step < 3; step++) {
            Check.sample(mixed, 200, 201, 202, 5 + 2 * step, 203);
            Check.sample(mixed, 40 - step, 41, 42, 43, 44);
        }
        Check.due("other classes between them", 'n', () -> mixed.judge(0, 3));
        Sentence.of("otherwise 'n' if there are 3 or more and each is as much greater than the one ahead, modulo"
                + " 256, 'e'"
                + " if");
        Check.due("'n' ahead of 'e'", 'n', () -> judged(0, 128, 0, 128));
        Check.due("'n' ahead of 't'", 'n', () -> judged(65, 66, 67));
        Check.due("'e' ahead of 't'", 'e', () -> judged(65, 66, 66, 65));
    }

    private static void verdictsOfNumbers() {
        Sentence.of("'n' if there are 3 or more");
        Check.due("two", 'r', () -> judged(5, 7));
        Check.due("three", 'n', () -> judged(5, 7, 9));
        Check.due("the third one is too great", 'r', () -> judged(5, 7, 10));
        Check.due("the third one is too small", 'r', () -> judged(5, 7, 8));
        Check.due("the fourth one is too great", 'r', () -> judged(5, 7, 9, 12));
        Check.due("two of three samples have bytes there", 'r', () -> Check.seerOf(1, Check.row(1, 2), Check.row(1, 2),
                Check.row(1, 2), Check.row(1, 3, 2), Check.row(1, 5, 2)).judge(0, 1));
        Check.due("three of five samples have bytes there", 'n', () -> Check.seerOf(1, Check.row(1, 2), Check.row(1, 2),
                Check.row(1, 3, 2), Check.row(1, 5, 2), Check.row(1, 7, 2)).judge(0, 1));
        Sentence.of("each is as much greater than the one ahead, modulo 256");
        Check.due("from 255 to 0", 'n', () -> judged(254, 255, 0));
        Check.due("from 250 to 4", 'n', () -> judged(240, 250, 4, 14));
        Check.due("255 greater is 1 less", 'n', () -> judged(2, 1, 0, 255));
        Check.due("128 greater, twice", 'n', () -> judged(0, 128, 0));
        Check.due("1 greater and 255 greater", 'r', () -> judged(5, 6, 5));
    }

    private static void verdictsOfFewAndLetters() {
        Sentence.of("'e' if there are at most half as many different ones as bytes");
        Check.due("2 of 4", 'e', () -> judged(1, 2, 2, 1));
        Check.due("2 of 3", 'r', () -> judged(1, 2, 2));
        Check.due("3 of 5", 'r', () -> judged(1, 2, 4, 2, 1));
        Check.due("3 of 6", 'e', () -> judged(1, 2, 4, 4, 2, 1));
        Check.due("5 of 10", 'e', () -> judged(1, 2, 4, 7, 11, 11, 7, 4, 2, 1));
        Check.due("6 of 10", 'r', () -> judged(1, 2, 4, 7, 11, 12, 7, 4, 2, 1));
        Check.due("gaps are no bytes", 'r', () -> Check.seerOf(1, Check.row(1, 2), Check.row(1, 2), Check.row(1, 2),
                Check.row(1, 3, 2), Check.row(1, 5, 2)).judge(0, 1));
        Sentence.of("'t' if all are from 32 to 126, 'r' otherwise");
        Check.due("32 and 126", 't', () -> judged(32, 126));
        Check.due("31", 'r', () -> judged(31, 126));
        Check.due("127", 'r', () -> judged(32, 127));
        Check.due("0", 'r', () -> judged(0, 65));
        Check.due("255", 'r', () -> judged(65, 255));
        Check.due("32 + 128", 'r', () -> judged(65, 160));
        Check.due("the last one of three", 'r', () -> judged(65, 70, 31));
    }
}
