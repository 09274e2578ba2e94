import java.util.NoSuchElementException;

/** The cases at the edges of relations, claims and packing, by the sentences that name them. */
final class EdgesOfRelations {
    private EdgesOfRelations() {
    }

    static void all() {
        classesOfTwo();
        lengths();
        formsOfLengths();
        sums();
        kindsOfSums();
        keys();
        counts();
        widthsAndRests();
        offsets();
        order();
        numbersOfRelations();
        claims();
        standing();
        resting();
        masks();
        pairs();
        varieties();
    }

    /** All relations of samples that are one class. */
    private static String told(int[]... rows) {
        return told("l+^-kro", rows);
    }

    /** Those of some kinds alone. */
    private static String told(String kinds, int[]... rows) {
        Formatseer seer = Check.seerOf(1, rows);
        for (int sample = 0; sample < rows.length; sample++) {
            if (seer.classOf(sample) != 0) {
                return "no class";
            }
        }
        return Check.relationsOf(seer, 0).replaceAll("(?<![^ ])[^ ,\\d" + kinds.replace("^", "\\^").replace("-", "\\-")
                + "][^ ]*( |$)", "").trim();
    }

    private static void classesOfTwo() {
        Sentence.of("They are looked for in the samples of a class, if these are 2 or more, and hold for all of them");
        int[] one = Check.row(3, 9, 9);
        int[] other = Check.row(2, 9);
        Check.due("one sample", "", () -> told(one));
        Check.due("one sample, its sum", "", () -> told(Check.row(1, 2, 3)));
        Check.due("two samples", "l0,1,0 k0,0,0", () -> told(one, other));
        Check.due("three, and it holds for all", "l0,1,0 k0,0,0", () -> told(one, other, Check.row(4, 9, 9, 9)));
        Check.due("three, and it does not hold for the last one", "k0,0,0",
                () -> told(one, other, Check.row(4, 9, 9, 9, 9)));
        Formatseer seer = Check.seerOf(1, one, other);
        seer.setAside(1, true);
        Check.due("the second one is set aside", 0, () -> seer.relations(0));
        seer.setAside(1, false);
        seer.setLimit(1000);
        Check.due("two classes of one sample", 0, () -> seer.relations(0) + seer.relations(1));
        for (int[] first : new int[][] {{}, {200}, Check.filled(40, 200)}) {
            Check.due("another class ahead does not count", "l0,1,3 +2,0,0 +3,0,0 +4,0,0 ^2,0,0 ^3,0,0 ^4,0,0"
                    + " -2,0,0 -3,0,0 -4,0,0 k0,0,0 k1,0,0 r1,2,2 o0,0,0",
                            () -> Check.relationsOf(Check.seerOf(1, first,
                    Check.row(3, 1, 0, 0, 0, 0), Check.row(5, 2, 0, 0, 0, 0, 0, 0)), 1));
            Check.due("nor for lengths that are alike", "+1,0,0 ^1,0,0", () -> Check.relationsOf(Check.seerOf(1, first,
                    Check.row(1, 2, 2), Check.row(1, 3, 3)), 1));
        }
    }

    private static void lengths() {
        Sentence.of("the number there is the length less the rest, 0 or more");
        Check.due("rest 0", "l0,1,0 k0,0,0", () -> told(Check.row(3, 9, 9), Check.row(2, 9)));
        Check.due("rest 1", "l0,1,1", () -> told("l", Check.row(2, 9, 9), Check.row(1, 9)));
        Check.due("it would be -1", "k0,0,0", () -> told(Check.row(4, 9, 9), Check.row(3, 9)));
        Check.due("rest 39", "l0,1,39 k0,0,0", () -> told(Check.filled(40, 9, 1), Check.filled(39, 9, 0)));
        Check.due("another rest for each", "k0,0,0", () -> told(Check.row(3, 9, 9), Check.row(1, 9)));
        Check.due("rest 0 of two bytes, -1 of one", "l0,2,0 l1,1,0 k1,0,0",
                () -> told(Check.row(0, 3, 8), Check.row(0, 2)));
        Sentence.of("lengths not being all alike; the forms");
        Check.due("alike", "", () -> told(Check.row(3, 8, 9), Check.row(3, 9, 8)));
        Check.due("two alike and one not", "l0,1,0 k0,0,0",
                () -> told(Check.row(3, 8, 9), Check.row(3, 9, 8), Check.row(2, 9)));
    }

    private static void formsOfLengths() {
        Sentence.of("the forms are 1 one byte, 2 two bytes, the greater one first, 3 two bytes, the lesser one first.");
        Check.due("1 at the last place of the shortest one", "l1,1,1 k1,0,0",
                () -> told(Check.row(9, 1), Check.row(9, 2, 9)));
        Check.due("1 not behind it", "", () -> told("l", Check.row(9, 9, 9, 1), Check.row(9, 9, 9)));
        Check.due("2 at the last places of the shortest one", "l0,2,0 l1,1,0 k1,0,0",
                () -> told(Check.row(0, 2), Check.row(0, 3, 9)));
        Check.due("3 at the last places of the shortest one", "l0,1,0 l0,3,0 k0,0,0",
                () -> told(Check.row(2, 0), Check.row(3, 0, 9)));
        Check.due("3 not behind them", "l1,1,0", () -> told("l", Check.row(9, 2), Check.row(9, 3, 0)));
        Check.due("2 not behind them", "", () -> told("l", Check.row(9, 0), Check.row(9, 0, 1)));
        Check.due("a second byte that is not 0", "l0,1,1 k0,0,0", () -> told(Check.row(1, 1), Check.row(2, 1, 9)));
    }

    private static void sums() {
        Sentence.of("the last byte is the sum of all bytes from the place up to that ahead of it, modulo 256");
        Check.due("255", "+0,0,0", () -> told("+", Check.row(254, 1, 255), Check.row(200, 55, 255)));
        Check.due("256 is 0", "+0,0,0 -0,0,0", () -> told(Check.row(255, 1, 0), Check.row(200, 56, 0)));
        Check.due("511 is 255", "+0,0,0", () -> told(Check.row(255, 255, 1, 255), Check.row(254, 255, 2, 255)));
        Check.due("not the last byte itself too", "", () -> told(Check.row(7, 0, 14), Check.row(8, 0, 16)));
        Sentence.of("there is at least one such byte");
        Check.due("one byte ahead of the last one", "+0,0,0 ^0,0,0",
                () -> told("+^", Check.row(7, 7), Check.row(7, 7)));
        Check.due("none", "", () -> told(Check.row(0), Check.row(0)));
        Check.due("none in the shorter one", "", () -> told(Check.row(0), Check.row(0, 0)));
        Check.due("one in the shorter one, two in the longer one", "+0,0,0 ^0,0,0",
                () -> told("+^-", Check.row(4, 4), Check.row(4, 8, 12)));
        Check.due("no bytes", "", () -> told(Check.row(), Check.row()));
    }

    private static void kindsOfSums() {
        Sentence.of("'+', '^' or '-' by a place, with form and rest 0");
        Check.due("of all three", "+1,0,0 +2,0,0 ^1,0,0 ^2,0,0 -1,0,0 -2,0,0",
                () -> told("+^-", Check.row(1, 0, 0, 0), Check.row(2, 0, 0, 0)));
        Sentence.of("or these by exclusive or, or the number that makes this sum 0 modulo 256");
        Check.due("exclusive or of alike ones is 0", "^0,0,0", () -> told(Check.row(7, 7, 0), Check.row(9, 9, 0)));
        Check.due("exclusive or up to 255", "^0,0,0", () -> told(Check.row(240, 31, 239), Check.row(255, 31, 224)));
        Check.due("1 needs 255", "-0,0,0", () -> told("+^-", Check.row(1, 0, 255), Check.row(0, 1, 255)));
        Check.due("255 needs 1", "-0,0,0", () -> told("+^-", Check.row(254, 1, 1), Check.row(253, 2, 1)));
        Check.due("128 needs 128", "-0,0,0", () -> told("-", Check.row(128, 0, 128), Check.row(127, 1, 128)));
        Check.due("0 needs 0, not 256", "-0,0,0", () -> told("-", Check.row(255, 1, 0), Check.row(254, 2, 0)));
    }

    private static void keys() {
        Sentence.of("samples with the same byte there are as long, and those with others are not, and lengths are"
                + " not all"
                + " alike.");
        Check.due("two of each", "k0,0,0",
                () -> told(Check.row(5, 7), Check.row(6, 7, 7), Check.row(5, 7), Check.row(6, 7, 7)));
        Check.due("the same byte, not as long", "", () -> told(Check.row(5, 7), Check.row(5, 7, 7)));
        Check.due("others, and as long", "",
                () -> told(Check.row(5, 7), Check.row(6, 7), Check.row(8, 7, 7)));
        Check.due("lengths all alike, bytes too", "", () -> told(Check.row(5, 7), Check.row(5, 8)));
        Check.due("lengths all alike, bytes not", "", () -> told(Check.row(5, 7), Check.row(6, 7)));
        Check.due("at the last place of the shortest one", "k1,0,0", () -> told(Check.row(9, 7), Check.row(9, 8, 7)));
        Check.due("not behind it", "", () -> told(Check.row(9), Check.row(9, 8)));
    }

    private static void counts() {
        Sentence.of("the length is 1 more than the place, plus the width times the byte there, plus the rest, bytes"
                + " there"
                + " not being all alike.");
        Check.due("a count of 0 at the last place", "k1,0,0 r1,2,0",
                () -> told(Check.row(9, 0), Check.row(9, 1, 98, 97)));
        Check.due("alike bytes", "", () -> told("r", Check.row(1, 99, 98), Check.row(1, 98, 99)));
        Check.due("two alike and one not", "k0,0,0 r0,2,0",
                () -> told(Check.row(1, 99, 98), Check.row(1, 98, 97), Check.row(2, 99, 98, 97, 96)));
        Check.due("another width for each", "k0,0,0",
                () -> told(Check.row(1, 99, 98), Check.row(2, 99, 98, 97, 96, 95, 94)));
        Check.due("not behind the shortest one", "", () -> told(Check.row(99), Check.row(99, 1, 98, 97)));
    }

    private static void widthsAndRests() {
        Sentence.of("'r' by a place, a width from 2 to 8 and a rest from 0 to 3");
        for (int width = 1; width <= 9; width++) {
            int one = width;
            Check.due("width " + one, one < 2 || one > 8 ? "" : "r0," + one + ",0",
                    () -> told("r", Check.filled(1 + one, 99, 1), Check.filled(1 + 2 * one, 99, 2)));
        }
        for (int rest = 0; rest <= 4; rest++) {
            int one = rest;
            Check.due("rest " + one, one > 3 ? "" : "r0,2," + one,
                    () -> told("r", Check.filled(3 + one, 99, 1), Check.filled(5 + one, 99, 2)));
        }
        Check.due("rest -1", "", () -> told("r", Check.filled(2, 99, 1), Check.filled(4, 99, 2)));
        Check.due("width 8 and rest 3", "r0,8,3", () -> told("r", Check.filled(4, 99, 0), Check.filled(12, 99, 1)));
        Check.due("40 bytes", "r0,3,0", () -> told("r", Check.filled(40, 99, 13), Check.filled(37, 99, 12)));
    }

    private static void offsets() {
        Sentence.of("the byte there is a place in the sample, at which that one is found, bytes there not being all"
                + " alike.");
        Check.due("the last place", "o0,77,0", () -> told("o", Check.row(2, 5, 77), Check.row(1, 77, 77)));
        Check.due("behind the last place", "", () -> told("o", Check.row(3, 5, 77), Check.row(1, 77, 77)));
        Check.due("behind it, in the second one", "", () -> told("o", Check.row(1, 77, 77), Check.row(3, 5, 77)));
        Check.due("behind the last place of both", "", () -> told("o", Check.row(3, 5, 77), Check.row(4, 5, 77)));
        Check.due("alike bytes", "", () -> told("o", Check.row(2, 5, 77), Check.row(2, 6, 77)));
        Check.due("place 0, and the byte 0", "o0,0,0", () -> told("o", Check.row(0, 5, 66), Check.row(1, 0, 66)));
        Check.due("the byte 255", "o0,255,0",
                () -> told("o", Check.row(1, 255, 9), Check.row(2, 9, 255), Check.row(2, 255, 255)));
        Check.due("another byte is found", "", () -> told("o", Check.row(1, 77, 9), Check.row(2, 77, 78)));
        Check.due("at the last place of the shortest one", "o1,9,0",
                () -> told("o", Check.row(9, 0), Check.row(9, 2, 9)));
        Check.due("not behind it", "", () -> told("o", Check.row(7), Check.row(7, 2, 7)));
        Check.due("behind the last place of the first one there is no 0", "",
                () -> told("o", Check.row(3, 5, 77), Check.row(1, 0, 77)));
        Check.due("nor behind that of the second one", "", () -> told("o", Check.row(1, 0, 77), Check.row(3, 5, 77)));
    }

    private static void order() {
        Sentence.of("They are ordered by kinds, as told here, then by places, forms or widths, and rests.");
        Check.due("all kinds", "l0,1,3 +2,0,0 +3,0,0 +4,0,0 ^2,0,0 ^3,0,0 ^4,0,0 -2,0,0 -3,0,0 -4,0,0"
                + " k0,0,0 k1,0,0 r1,2,2 o0,0,0",
                        () -> told(Check.row(3, 1, 0, 0, 0, 0), Check.row(5, 2, 0, 0, 0, 0, 0, 0)));
        int[] zeros = Check.filled(40, 0);
        Check.due("three kinds of 39 places", 117, () -> Check.seerOf(1, zeros, zeros).relations(0));
        Check.due("the last of them", "-38,0,0", () -> told(zeros, zeros).replaceAll(".* ", ""));
        Check.due("places ahead of forms", "l0,1,1 l0,3,1 l1,2,2 l2,1,2 l2,3,2",
                () -> told("l", Check.row(4, 0, 3, 0, 1), Check.row(5, 0, 4, 0, 1, 2)));
    }

    private static void numbersOfRelations() {
        Sentence.of(15, "Returns the number of relations.");
        Formatseer seer = Check.seerOf(1, Check.row(3, 9, 9), Check.row(2, 9), Check.row());
        Check.due("two", 2, () -> seer.relations(0));
        Check.due("none", 0, () -> seer.relations(2));
        Sentence.of(16, "- `index`: the number of the relation, from 0");
        Check.due("the first", 'l', () -> seer.kindOf(1, 0));
        Check.due("the last", 'k', () -> seer.kindOf(1, 1));
        for (int index : new int[] {-1, 2, Integer.MAX_VALUE, Integer.MIN_VALUE}) {
            Check.dueThrow("index " + index, NoSuchElementException.class, () -> seer.kindOf(0, index));
        }
        Check.dueThrow("none at all", NoSuchElementException.class, () -> seer.kindOf(2, 0));
        Sentence.of(17, "- `what`: 'p' the place, 'f' the form, the width or the byte that is found, 'r' the rest");
        Check.due("the place", 0, () -> seer.detail(0, 0, 'p'));
        Check.due("the form", 1, () -> seer.detail(0, 0, 'f'));
        Check.due("the rest", 0, () -> seer.detail(0, 0, 'r'));
        for (char what : "PFRlkqsoegt \u0000\u00ff\uffff".toCharArray()) {
            Check.dueThrow("what " + (int) what, IllegalArgumentException.class, () -> seer.detail(0, 0, what));
        }
        Check.dueThrow("index -1", NoSuchElementException.class, () -> seer.detail(0, -1, 'p'));
        Check.dueThrow("index 2", NoSuchElementException.class, () -> seer.detail(0, 2, 'r'));
    }

    private static void claims() {
        Sentence.of(18, "Throws `IllegalStateException` if there are 20 claims");
        Formatseer seer = Check.seerOf(1, Check.row(3, 9, 9), Check.row(2, 9));
        for (int number = 0; number < 20; number++) {
            int due = number;
            Check.dueThrow("not yet", IndexOutOfBoundsException.class, () -> seer.stands(due));
            Check.due("its number", due, () -> seer.claim(due % 2, due / 2 % 2));
        }
        Check.due("the twentieth one", true, () -> seer.stands(19));
        Check.dueThrow("one more", IllegalStateException.class, () -> seer.claim(0, 0));
        Check.dueThrow("is not there", IndexOutOfBoundsException.class, () -> seer.stands(20));
        Check.dueThrow("one that is no relation", NoSuchElementException.class, () -> seer.claim(0, 2));
    }

    private static void standing() {
        Sentence.of(19, "its relation is one of the class of the sample for which it was made, which is not set"
                + " aside, as"
                + " they are now.");
        Formatseer seer = Check.seerOf(1, Check.row(3, 9, 9), Check.row(2, 9), Check.row(70, 71));
        seer.claim(0, 0);
        seer.claim(1, 0);
        Check.due("it stands", true, () -> seer.stands(0));
        seer.setAside(0, true);
        Check.due("its sample is set aside", false, () -> seer.stands(0));
        Check.due("the class of the other one has one sample", false, () -> seer.stands(1));
        seer.setAside(0, false);
        Check.due("again", true, () -> seer.stands(0));
        seer.setLimit(1000);
        Check.due("two classes", false, () -> seer.stands(0));
        seer.setLimit(1);
        seer.append(0, 9);
        seer.append(1, 9);
        Check.due("a relation of another rest", "l0,1,1 k0,0,0 o0,9,0", () -> Check.relationsOf(seer, 0));
        Check.due("is not that one", false, () -> seer.stands(0));
        seer.claim(0, 0);
        Check.due("a claim of this one", true, () -> seer.stands(2));
        Check.due("the class of another sample is of no interest", 0, () -> seer.relations(2));
        Formatseer forms = Check.seerOf(1, Check.row(2, 0), Check.row(3, 0, 9));
        forms.claim(0, 1);
        Check.sample(forms, 4, 1, 9, 9);
        Check.due("form 1 is left", "l0,1,0 k0,0,0", () -> Check.relationsOf(forms, 0));
        Check.due("a claim of form 3 does not stand", false, () -> forms.stands(0));
        Formatseer kinds = Check.seerOf(1, Check.row(1, 2, 3), Check.row(1, 8, 9));
        kinds.claim(0, 0);
        kinds.claim(0, 1);
        Check.sample(kinds, 1, 3, 2);
        Check.due("'+' does not hold any more", false, () -> kinds.stands(0));
        Check.due("'^' of the same place does", true, () -> kinds.stands(1));
        Formatseer places = Check.seerOf(1, Check.row(3, 3, 9), Check.row(4, 4, 9, 9));
        places.claim(0, 0);
        places.claim(0, 1);
        Check.sample(places, 8, 3, 9);
        Check.due("place 0 does not hold any more", false, () -> places.stands(0));
        Check.due("place 1 does", true, () -> places.stands(1));
    }

    private static void resting() {
        Sentence.of(20, "Returns on how many samples a claim rests, those of that class now.");
        Formatseer seer = Check.seerOf(1, Check.row(3, 9, 9), Check.row(2, 9));
        seer.claim(0, 0);
        Check.due("two", 2, () -> seer.rests(0));
        for (int more = 3; more <= 10; more++) {
            Check.sample(seer, Check.filled(more, 9, more));
            int due = more;
            Check.due("more", due, () -> seer.rests(0));
        }
        seer.setAside(4, true);
        Check.due("one is set aside", 9, () -> seer.rests(0));
        Sentence.of(20, "Returns the number of samples, 0 if it does not stand.");
        seer.append(5, 9);
        Check.due("it does not stand", 0, () -> seer.rests(0));
        seer.setAside(5, true);
        Check.due("it stands again", 8, () -> seer.rests(0));
        seer.setAside(0, true);
        Check.due("its sample is set aside", 0, () -> seer.rests(0));
    }

    private static int mask(int... bytes) {
        return Check.seerOf(600, bytes).mask(0);
    }

    private static void noMask(String what, int... bytes) {
        Check.dueThrow(what, NoSuchElementException.class, () -> mask(bytes));
    }

    private static void masks() {
        Sentence.of("A mask is a number from 1 to 255 by which all bytes of a sample, one or more, become 32 to 126 by"
                + " exclusive or.");
        Check.due("not 0, but 1", 1, () -> mask(65, 66));
        Check.due("to 33", 1, () -> mask(32));
        Check.due("to 126", 1, () -> mask(127));
        Check.due("not to 127", 2, () -> mask(126));
        Check.due("to 32", 32, () -> mask(0));
        Check.due("not to 30", 32, () -> mask(31));
        Check.due("128 to 32", 160, () -> mask(128, 254, 255));
        Check.due("255 to 126", 129, () -> mask(255));
        int[] all = new int[33];
        for (int index = 0; index < 31; index++) {
            all[index] = 159 - index;
        }
        all[31] = 223;
        all[32] = 191;
        Check.due("255 alone", 255, () -> mask(all));
        noMask("no bytes");
        noMask("0 and 255", 0, 255);
        noMask("127 and 128", 127, 128);
        noMask("40 bytes, the last one is another", Check.row(1, 2, 3, 4, 5, 6, 7, 8, 9, 10, 11, 12, 13, 14, 15, 16, 17, 18,
                19, 20, 21, 22, 23, 24, 25, 26, 27, 28, 29, 30, 31, 32, 33, 34, 35, 36, 37, 38, 39, 200));
        Sentence.of(21, "Returns the least mask of a sample.");
        Check.due("not 33, but 32", 32, () -> mask(0, 31));
        Check.due("not 2, but 1", 1, () -> mask(127, 33));
    }

    private static int unpacked(int... bytes) {
        return Check.seerOf(600, bytes).unpacked(0);
    }

    private static void pairs() {
        Sentence.of("A sample of pairs of a count, 1 or more, and a byte can be unpacked.");
        Check.due("count 1", 1, () -> unpacked(1, 9));
        Check.due("count 255", 255, () -> unpacked(255, 9));
        Check.due("the byte 0", 3, () -> unpacked(3, 0));
        Check.due("twenty pairs", 5100, () -> unpacked(Check.filled(40, 255)));
        Check.dueThrow("count 0", NoSuchElementException.class, () -> unpacked(0, 9));
        Check.dueThrow("a later count 0", NoSuchElementException.class, () -> unpacked(1, 9, 0, 9));
        Check.dueThrow("half a pair", NoSuchElementException.class, () -> unpacked(1));
        Check.dueThrow("a pair and a half", NoSuchElementException.class, () -> unpacked(1, 9, 1));
        Check.dueThrow("39 bytes", NoSuchElementException.class, () -> unpacked(Check.filled(39, 1)));
        Sentence.of("A sample without bytes can be unpacked, into 0.");
        Check.due("no bytes", 0, () -> unpacked());
        Sentence.of(22, "Returns the sum of its counts.");
        Check.due("not of its bytes", 3, () -> unpacked(1, 100, 2, 200));
    }

    private static int variety(int... bytes) {
        return Check.seerOf(600, bytes).variety(0);
    }

    private static void varieties() {
        Sentence.of(23, "Returns 1000 times their number, divided by that of its bytes, rounded down; 0 without"
                + " bytes.");
        Check.due("no bytes", 0, () -> variety());
        Check.due("one byte", 1000, () -> variety(0));
        Check.due("two alike", 500, () -> variety(7, 7));
        Check.due("2 of 3", 666, () -> variety(7, 8, 7));
        Check.due("1 of 3", 333, () -> variety(7, 7, 7));
        Check.due("6 of 7", 857, () -> variety(1, 2, 3, 4, 5, 6, 1));
        Check.due("1 of 40", 25, () -> variety(Check.filled(40, 255)));
        Check.due("1 of 39", 25, () -> variety(Check.filled(39, 0)));
        Check.due("40 of 40", 1000,
                () -> variety(Check.row(0, 2, 3, 4, 5, 6, 7, 8, 9, 10, 11, 12, 13, 14, 15, 16, 17, 18,
                19, 20, 21, 22, 23, 24, 25, 26, 27, 28, 29, 30, 31, 32, 33, 34, 35, 36, 37, 38, 39, 255)));
    }
}
