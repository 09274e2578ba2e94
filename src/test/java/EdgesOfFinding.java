import java.util.NoSuchElementException;

/** The cases at the edges of finding, differences, mutants and covers, by the sentences that name them. */
final class EdgesOfFinding {
    private static final String NONE = "none";

    private EdgesOfFinding() {
    }

    static void all() {
        samplesThatAreAsLong();
        lengths();
        sums();
        texts();
        sixtySigns();
        leastCosts();
        numbersWithoutZeros();
        whatIsFoundReads();
        differences();
        placesOfMutants();
        lastZeros();
        mendedSums();
        covers();
        timesThatAreShown();
    }

    /** The text that is found for samples that are one class. */
    private static String found(int[]... rows) {
        Formatseer seer = Check.seerOf(1, rows);
        for (int sample = 0; sample < rows.length; sample++) {
            if (seer.classOf(sample) != 0) {
                return "no class";
            }
        }
        try {
            int number = seer.find(0);
            for (int sample = 0; sample < rows.length; sample++) {
                if (seer.read(number, sample) != -1) {
                    return "does not read " + sample;
                }
            }
            return Check.textOf(seer, number);
        } catch (NoSuchElementException none) {
            return NONE;
        }
    }

    private static void samplesThatAreAsLong() {
        Sentence.of("if all samples are as long, 1 byte or more, for each place c with the byte if it is the same"
                + " in all,"
                + " otherwise h");
        Check.due("no bytes", NONE, () -> found(Check.row()));
        Check.due("two without bytes", NONE, () -> found(Check.row(), Check.row()));
        Check.due("one byte", "c7", () -> found(Check.row(7)));
        Check.due("one sample has the same in all", "c7c8", () -> found(Check.row(7, 8)));
        Check.due("the same, and not", "c7hc9", () -> found(Check.row(7, 8, 9), Check.row(7, 6, 9)));
        Check.due("the last of three is another", "c7c8h",
                () -> found(Check.row(7, 8, 9), Check.row(7, 8, 9), Check.row(7, 8, 6)));
        Check.due("not as long", NONE, () -> found(Check.row(7, 8), Check.row(7)));
        Check.due("forty bytes, 39 of them others", "h".repeat(39) + "c7", () -> found(
                lastByte(7, Check.filled(40, 50)), lastByte(7, Check.filled(40, 51))));
    }

    private static int[] lastByte(int last, int[] bytes) {
        bytes[bytes.length - 1] = last;
        return bytes;
    }

    private static void lengths() {
        Sentence.of("for each relation 'l' of the form 1 of which the rest is 1 more than the place");
        Check.due("place 0, rest 1", "nv0", () -> found(Check.row(1, 5), Check.row(2, 5, 6)));
        Check.due("place 0, rest 0", NONE, () -> found(Check.row(2, 5), Check.row(3, 5, 6)));
        Check.due("place 0, rest 2, no sum", NONE, () -> found(Check.row(1, 5, 7), Check.row(2, 5, 7, 9)));
        Check.due("place 0, rest 3", NONE, () -> found(Check.row(1, 5, 7, 8), Check.row(2, 5, 7, 9, 4)));
        Check.due("place 1, rest 2", "c9nv0", () -> found(Check.row(9, 1, 5), Check.row(9, 2, 5, 6)));
        Check.due("place 1, rest 1", NONE, () -> found(Check.row(9, 2, 5), Check.row(9, 3, 5, 6)));
        Check.due("a length of 0", "nv0", () -> found(Check.row(0), Check.row(2, 0, 5)));
        Check.due("lengths all alike are no relation", "c1c5", () -> found(Check.row(1, 5), Check.row(1, 5)));
        Check.due("form 2 is none", NONE, () -> found(Check.row(0, 2, 5), Check.row(0, 3, 5, 6)));
        Check.due("form 3 is none", NONE, () -> found(Check.row(1, 0, 5), Check.row(2, 0, 5, 6)));
        Sentence.of("likewise for the places ahead of that one, then n and v0");
        Check.due("none ahead", "nv0", () -> found(Check.row(1, 5), Check.row(2, 5, 6)));
        Check.due("the same, and not", "c9hnv0", () -> found(Check.row(9, 3, 1, 5), Check.row(9, 4, 2, 5, 6)));
        Check.due("the cheaper one of two lengths", "hhc1c2c3nv0", () -> found(Check.row(50, 5, 1, 2, 3, 1, 9),
                Check.row(60, 6, 1, 2, 3, 2, 9, 9), Check.row(50, 4, 1, 2, 3, 0)));
    }

    private static void sums() {
        Sentence.of("or 2 more if there is a relation '+' or '^' from the place 0");
        Check.due("'+'", "nv0s", () -> found(Check.row(1, 1, 2), Check.row(2, 1, 8, 11)));
        Check.due("'^'", "nv0x", () -> found(Check.row(1, 3, 2), Check.row(2, 1, 3, 0)));
        Check.due("'-' is none", NONE, () -> found(Check.row(1, 1, 254), Check.row(2, 1, 8, 245)));
        Check.due("'+' from the place 1 is none", NONE, () -> found(Check.row(1, 5, 5), Check.row(2, 5, 6, 11)));
        Check.due("'^' from the place 1 is none", NONE, () -> found(Check.row(1, 5, 5), Check.row(2, 5, 6, 3)));
        Check.due("behind another place", "c9nv0s", () -> found(Check.row(9, 1, 5, 15), Check.row(9, 2, 5, 6, 22)));
        Check.due("a length of 0 and a sum", "nv0s", () -> found(Check.row(0, 0), Check.row(1, 0, 1)));
        Check.due("1 more, though there is a sum", "nv0", () -> found(Check.row(2, 5, 7), Check.row(3, 5, 7, 15)));
        Check.due("3 more", NONE, () -> found(Check.row(1, 5, 7, 13), Check.row(2, 5, 7, 4, 18)));
        Sentence.of("and then s or x if the rest is 2 more, s if both can be");
        Check.due("both", "nv0s", () -> found(Check.row(1, 4, 5), Check.row(2, 4, 8, 14)));
    }

    private static void texts() {
        Sentence.of("if all samples end with 0 and have no other one, z.");
        Check.due("one 0 alone", "z", () -> found(Check.row(0)));
        Check.due("two", "z", () -> found(Check.row(5, 6, 7, 0), Check.row(5, 0)));
        Check.due("another 0", NONE, () -> found(Check.row(5, 0, 6, 0), Check.row(5, 0)));
        Check.due("a 0 at the beginning", NONE, () -> found(Check.row(0, 6, 0), Check.row(6, 0)));
        Check.due("the second one does not end with 0", NONE, () -> found(Check.row(5, 6, 0), Check.row(5, 6)));
        Check.due("the first one does not", NONE, () -> found(Check.row(5, 6), Check.row(5, 6, 0)));
        Check.due("the last of three does not", NONE,
                () -> found(Check.row(5, 6, 0), Check.row(5, 0), Check.row(5, 6, 7, 8)));
        Check.due("forty bytes", "z", () -> found(lastByte(0, Check.filled(40, 9)), Check.row(9, 0)));
    }

    private static void sixtySigns() {
        Sentence.of("Those of more than 60 signs are left out.");
        int[] fifteen = Check.filled(15, 200);
        Check.due("60", "c200".repeat(15), () -> found(fifteen));
        Check.due("61", NONE, () -> found(Check.filled(16, 200, 1, 30)));
        Check.due("61 of one form, another one is left", "z", () -> found(lastByte(0, Check.filled(16, 200, 30))));
        Check.due("60 with a length", "c200".repeat(14) + "hnv0", () -> found(
                behind200s(50, 1, 9), behind200s(60, 2, 9, 9)));
        Check.due("61 with a length", NONE, () -> found(behind200s(50, 70, 1, 9), behind200s(60, 80, 2, 9, 9)));
    }

    private static int[] behind200s(int... last) {
        int[] bytes = Check.filled(14 + last.length, 200);
        System.arraycopy(last, 0, bytes, 14, last.length);
        return bytes;
    }

    private static void leastCosts() {
        Sentence.of("The one with the least cost for the samples of this class is taken, of several the one that"
                + " was told"
                + " first here.");
        Check.due("c0 at 20, z at 18", "z", () -> found(Check.row(0)));
        Check.due("c5c0 at 40, z at 42", "c5c0", () -> found(Check.row(5, 0), Check.row(5, 0)));
        Check.due("hc0 at 46, z at 42", "z", () -> found(Check.row(5, 0), Check.row(6, 0)));
        Check.due("nv0 at 102 and z at 82", "z",
                () -> found(Check.row(2, 9, 0), Check.row(3, 9, 9, 0), Check.row(1, 0)));
        Check.due("202 and 202", "c1c2c3c4c5nv0", () -> found(Check.row(1, 2, 3, 4, 5, 2, 9, 0),
                Check.row(1, 2, 3, 4, 5, 3, 9, 8, 0), Check.row(1, 2, 3, 4, 5, 1, 0)));
        Check.due("182 and 178", "z", () -> found(Check.row(1, 2, 3, 4, 2, 9, 0),
                Check.row(1, 2, 3, 4, 3, 9, 8, 0), Check.row(1, 2, 3, 4, 1, 0)));
        Check.due("two lengths that cost as much", "nv0", () -> found(Check.row(2, 1, 9), Check.row(3, 2, 9, 9)));
        for (int[] first : new int[][] {{}, {200}, {0, 200}}) {
            Check.due("another class ahead: z", "z", () -> foundBehind(first, Check.row(5, 6, 7, 0), Check.row(5, 0)));
            Check.due("another class ahead: c", "c7c8", () -> foundBehind(first, Check.row(7, 8)));
            Check.due("another class ahead: nv0", "nv0", () -> foundBehind(first, Check.row(1, 5), Check.row(2, 5, 6)));
            Check.due("another class ahead: h", "c7h", () -> foundBehind(first, Check.row(7, 8), Check.row(7, 9)));
        }
        Formatseer seer = Check.seerOf(500,
                Check.row(5, 0), Check.row(6, 7, 8, 9, 0), Check.row(5, 0), Check.row(5, 0));
        seer.find(0);
        Check.due("other classes do not count", "c5c0", () -> Check.textOf(seer, 0));
        seer.setAside(2, true);
        seer.setAside(3, true);
        seer.find(0);
        Check.due("those that are set aside do not", "z", () -> Check.textOf(seer, 1));
    }

    private static String foundBehind(int[] first, int[]... rows) {
        Formatseer seer = Check.seerOf(1, rows);
        Formatseer behind = new Formatseer();
        Check.sample(behind, first);
        for (int[] row : rows) {
            Check.sample(behind, row);
        }
        behind.setLimit(1);
        seer.find(0);
        behind.find(1);
        return Check.textOf(seer, 0).equals(Check.textOf(behind, 0)) ? Check.textOf(behind, 0) : "another text";
    }

    private static void numbersWithoutZeros() {
        Sentence.of("Numbers of descriptions that are found have no 0 ahead.");
        Check.due("0", "c0c0", () -> found(Check.row(0, 0)));
        Check.due("9 and 10", "c9c10", () -> found(Check.row(9, 10)));
        Check.due("99, 100 and 101", "c99c100c101", () -> found(Check.row(99, 100, 101)));
        Check.due("198, 199, 200 and 255", "c198c199c200c255", () -> found(Check.row(198, 199, 200, 255)));
    }

    private static void whatIsFoundReads() {
        Sentence.of("A description that was found reads all samples from which it was made.");
        Check.due("a length of 38 and a sum", "nv0s",
                () -> found(lastByte(228, Check.filled(40, 5, 38)), Check.row(1, 5, 6)));
        Check.due("a length of 39", "nv0", () -> found(Check.filled(40, 5, 39), Check.row(2, 5, 5)));
        Sentence.of(28, "Throws `NoSuchElementException` if none can be made");
        Check.due("neither as long, nor by a length, nor by 0", NONE, () -> found(Check.row(7, 8), Check.row(7)));
        Check.due("one sample without bytes", NONE, () -> found(Check.row()));
        Sentence.of(50, "a description that was found reads all samples from which it was made, as long as they are"
                + " as they"
                + " were");
        Formatseer found = Check.seerOf(1, Check.row(1, 5), Check.row(2, 5, 6));
        found.find(0);
        Check.due("as they were", true, found::isSound);
        found.append(0, 9);
        Check.due("not as they were", 2, () -> found.read(0, 0));
        Check.due("which is sound", true, found::isSound);
    }

    private static int differ(String first, String second) {
        Formatseer seer = new Formatseer();
        Check.describe(seer, first);
        Check.describe(seer, second);
        int way = seer.differ(0, 1);
        return seer.differ(1, 0) == way ? way : -1;
    }

    private static void differences() {
        Sentence.of(36, "the least number of items to change, to add and to leave out");
        Check.due("none", 0, () -> differ("hzb4", "hzb4"));
        Check.due("one to change", 1, () -> differ("h", "z"));
        Check.due("one to add at the end", 1, () -> differ("h", "hz"));
        Check.due("one to add at the beginning", 1, () -> differ("h", "zh"));
        Check.due("one to leave out and one to add", 2, () -> differ("hzsx", "zsxh"));
        Check.due("59 to add", 59, () -> differ("h", "h".repeat(60)));
        Check.due("60 to change", 60, () -> differ("h".repeat(60), "z".repeat(60)));
        Sentence.of(36, "items are alike if their texts are, and those within ( ) are a part of that which they are"
                + " in.");
        Check.due("another number", 1, () -> differ("c7", "c8"));
        Check.due("the same number, another text", 1, () -> differ("c7", "c07"));
        Check.due("one that begins with the other one", 1, () -> differ("c1", "c12"));
        Check.due("other items in ( )", 1, () -> differ("nr0(hhz)", "nr0(zzss)"));
        Check.due("the same in ( )", 0, () -> differ("nr0(hhz)", "nr0(hhz)"));
        Check.due("r and i", 1, () -> differ("nr0(h)", "ni0=1(h)"));
        Check.due("within ( ) and not", 2, () -> differ("nr0(h)", "nhz"));
        Check.due("behind ( )", 1, () -> differ("nr0(h)s", "nr0(h)x"));
        Check.due("one more behind ( )", 1, () -> differ("nr0(r0(h))", "nr0(r0(h))h"));
        Sentence.of(36, "- `other`: the number of another one, or the same one");
        Formatseer seer = new Formatseer();
        Check.describe(seer, "hz");
        Check.due("the same one", 0, () -> seer.differ(0, 0));
    }

    private static Formatseer readBy(String text, int... bytes) {
        Formatseer seer = Check.seerOf(600, bytes);
        Check.describe(seer, text);
        return seer;
    }

    private static String mutant(String text, int place, int value, int... bytes) {
        Formatseer seer = readBy(text, bytes);
        int made;
        try {
            made = seer.mutant(0, 0, place, value);
        } catch (UnsupportedOperationException none) {
            return NONE;
        }
        if (made != 1 || seer.read(0, 1) != -1 || !Check.bytesOf(seer, 0).equals(told(bytes))) {
            return "another answer";
        }
        return Check.bytesOf(seer, 1);
    }

    private static String told(int... bytes) {
        return Check.bytesOf(Check.seerOf(600, bytes), 0);
    }

    private static void placesOfMutants() {
        Sentence.of(37, "if the description does not read the sample, the place is in no field by b, v, h or z");
        Check.due("it does not read it", NONE, () -> mutant("b2", 0, 9, 1, 2, 3));
        Check.due("b, its first place", "9 2 3", () -> mutant("b3", 0, 9, 1, 2, 3));
        Check.due("b, its last place", "1 2 9", () -> mutant("b3", 2, 9, 1, 2, 3));
        Check.due("behind the end", NONE, () -> mutant("b3", 3, 9, 1, 2, 3));
        Check.due("ahead", NONE, () -> mutant("b3", -1, 9, 1, 2, 3));
        Check.due("far", NONE, () -> mutant("b3", Integer.MAX_VALUE, 9, 1, 2, 3));
        Check.due("far ahead", NONE, () -> mutant("b3", Integer.MIN_VALUE, 9, 1, 2, 3));
        Check.due("no place", NONE, () -> mutant("nr0(h)", 1, 9, 0));
        Check.due("h", "9", () -> mutant("h", 0, 9, 1));
        Check.due("v", "2 8 9", () -> mutant("nv0", 2, 9, 2, 8, 8));
        Check.due("n", NONE, () -> mutant("nv0", 0, 2, 2, 8, 8));
        Check.due("behind a v without bytes", "0 9", () -> mutant("nv0h", 1, 9, 0, 8));
        Check.due("c", NONE, () -> mutant("c7", 0, 7, 7));
        Check.due("N, the first", NONE, () -> mutant("N", 0, 1, 1, 2));
        Check.due("N, the second", NONE, () -> mutant("N", 1, 2, 1, 2));
        Check.due("s", NONE, () -> mutant("hs", 1, 5, 5, 5));
        Check.due("x", NONE, () -> mutant("hx", 1, 5, 5, 5));
        Check.due("in ( )", "1 9", () -> mutant("nr0(h)", 1, 9, 1, 8));
        Formatseer two = Check.seerOf(600, Check.row(2, 8, 8), Check.row(1, 8));
        Check.describe(two, "nr0(h)");
        Check.due("the longer one is read", -1, () -> two.read(0, 0));
        Check.dueThrow("its last place in the shorter one", UnsupportedOperationException.class,
                () -> two.mutant(0, 1, 2, 9));
        Sentence.of(37, "- `value`: the byte, 0 to 255");
        Check.due("0", "0", () -> mutant("h", 0, 0, 1));
        Check.due("255", "255", () -> mutant("h", 0, 255, 1));
        Check.due("the same byte", "1", () -> mutant("h", 0, 1, 1));
        Formatseer seer = readBy("h", 1);
        for (int value : new int[] {-1, 256, Integer.MAX_VALUE, Integer.MIN_VALUE}) {
            Check.dueThrow("byte " + value, IllegalArgumentException.class, () -> seer.mutant(0, 0, 0, value));
        }
    }

    private static void lastZeros() {
        Sentence.of(37, "it is the last byte of one by z, or the byte would be 0 in such a one");
        Check.due("the first byte", "9 2 0", () -> mutant("z", 0, 9, 1, 2, 0));
        Check.due("the one ahead of the last", "1 9 0", () -> mutant("z", 1, 9, 1, 2, 0));
        Check.due("the last one", NONE, () -> mutant("z", 2, 9, 1, 2, 0));
        Check.due("the last one, 0 again", NONE, () -> mutant("z", 2, 0, 1, 2, 0));
        Check.due("the only one", NONE, () -> mutant("z", 0, 9, 0));
        Check.due("0 in it", NONE, () -> mutant("z", 1, 0, 1, 2, 0));
        Check.due("1 in it", "1 1 0", () -> mutant("z", 1, 1, 1, 2, 0));
        Check.due("0 in one by h behind it", "1 0 0", () -> mutant("zh", 2, 0, 1, 0, 9));
    }

    private static void mendedSums() {
        Sentence.of(37, "Writes a sample anew with another byte, and sums by s and x mended, in their order.");
        Check.due("s", "9 9", () -> mutant("hs", 0, 9, 1, 1));
        Check.due("s, modulo 256", "255 1 0", () -> mutant("hhs", 0, 255, 1, 1, 2));
        Check.due("x", "9 9", () -> mutant("hx", 0, 9, 1, 1));
        Check.due("a sum ahead of it stays", "5 5 9", () -> mutant("hsh", 2, 9, 5, 5, 8));
        Check.due("s and then x of it", "9 1 10 2", () -> mutant("hhsx", 0, 9, 5, 1, 6, 2));
        Check.due("x and then s of it", "9 1 8 18", () -> mutant("hhxs", 0, 9, 5, 1, 4, 10));
        Check.due("s in ( )", "2 9 11 7 29", () -> mutant("nr0(hs)", 1, 9, 2, 4, 6, 7, 19));
        Sentence.of(37, "Throws `IllegalStateException` if there are 10 samples");
        Formatseer seer = readBy("h", 1);
        for (int number = 1; number < 10; number++) {
            int due = number;
            Check.due("its number", due, () -> seer.mutant(0, due - 1, 0, due));
        }
        Check.dueThrow("there are 10", IllegalStateException.class, () -> seer.mutant(0, 0, 0, 9));
        Check.dueThrow("there are 10, and no such place", UnsupportedOperationException.class,
                () -> seer.mutant(0, 0, 1, 9));
        Check.dueThrow("an eleventh one", IndexOutOfBoundsException.class, () -> seer.variety(10));
        Formatseer like = readBy("hh", 1, 2);
        like.mutant(0, 0, 0, 9);
        Check.due("it is as like to others as its bytes are", 500, () -> like.likeness(0, 1));
        Check.due("and in a class of its own", 1, () -> like.classOf(1));
        Check.due("the last one is a sample as others are", 2, () -> seer.append(9, 5));
        Check.due("and is not set aside", false, () -> seer.setAside(9, false));
    }

    private static int cover(String text, int[]... rows) {
        Formatseer seer = Check.seerOf(600, rows);
        Check.describe(seer, text);
        return seer.cover(0);
    }

    private static void covers() {
        Sentence.of(38, "Returns how many samples at least show all that is shown of a description by samples that it"
                + " reads");
        Check.due("no samples", 0, () -> cover("nr0(h)"));
        Check.due("nothing to show", 0, () -> cover("h", Check.row(1)));
        Check.due("none is read", 0, () -> cover("nr0(h)", Check.row(1), Check.row(5, 5)));
        Check.due("one", 1, () -> cover("nr0(h)", Check.row(0)));
        Check.due("two that show the same", 1, () -> cover("nr0(h)", Check.row(0), Check.row(0)));
        Check.due("one that is not read shows nothing", 1, () -> cover("nr0(h)", Check.row(0), Check.row(1, 1, 1)));
        int[][] three = {Check.row(0, 0), Check.row(1, 8, 0), Check.row(0, 1, 8), Check.row(1, 8, 1, 8)};
        Check.due("two of four show what four do", 2, () -> cover("nr0(h)nr1(h)", three));
        int[][] ten = new int[10][];
        for (int number = 0; number < 10; number++) {
            int[] registers = Check.filled(5, 2);
            registers[number / 2] = number % 2;
            ten[number] = Check.filled(13 + number % 2, 8, registers);
        }
        Check.due("all ten: one of five is 0 or 1 in each", 10, () -> cover("nnnnnr0(h)r1(h)r2(h)r3(h)r4(h)", ten));
        Sentence.of(38, "that the items of an i are read, or not, and that those of an r are read not at all, once,"
                + " or more"
                + " often");
        Check.due("i: read, and not", 2, () -> cover("ni0=1(h)", Check.row(0), Check.row(1, 8)));
        Check.due("i: not, for two reasons", 1, () -> cover("ni0=1(h)", Check.row(0), Check.row(2)));
        Check.due("r: not at all, and once", 2, () -> cover("nr0(h)", Check.row(0), Check.row(1, 8)));
        Check.due("r: once, and twice", 2, () -> cover("nr0(h)", Check.row(2, 8, 8), Check.row(1, 8)));
        Check.due("r: twice, and three times", 1, () -> cover("nr0(h)", Check.row(2, 8, 8), Check.row(3, 8, 8, 8)));
        Check.due("r: all three", 3, () -> cover("nr0(h)", Check.row(2, 8, 8), Check.row(1, 8), Check.row(0)));
    }

    private static void timesThatAreShown() {
        Sentence.of("What is shown is of each item in the text; an r is done as often as its items were begun.");
        Check.due("two items with the same text", 2,
                () -> cover("nnr0(h)r1(h)", Check.row(0, 1, 8), Check.row(1, 0, 8)));
        Check.due("begun once, though the register is 3", 1,
                () -> cover("nnr0(v1)", Check.row(3, 0), Check.row(1, 1, 8), Check.row(1, 0)));
        Check.due("begun twice", 2, () -> cover("nnr0(v1)", Check.row(3, 0), Check.row(2, 1, 8, 8)));
        Formatseer edited = Check.seerOf(600, Check.row(0, 1, 8), Check.row(1, 0, 8));
        Check.describe(edited, "h");
        for (int turn = 0; turn < 24; turn++) {
            Check.type(edited, "nnr0(h)r1(h)");
            edited.edit(0);
        }
        Check.due("in its text as it is now, edited often", 2, () -> edited.cover(0));
        Sentence.of(38, "each time that it comes.");
        Check.due("one sample shows all three of the inner one", 1,
                () -> cover("nr0(nr1(h))", Check.row(3, 0, 1, 8, 2, 8, 8), Check.row(2, 1, 8, 2, 8, 8)));
        Check.due("two show them together", 2,
                () -> cover("nr0(nr1(h))", Check.row(2, 0, 1, 8), Check.row(2, 1, 8, 2, 8, 8)));
        Check.due("an item in ( ) that is not read shows nothing", 2,
                () -> cover("nr0(nr1(h))", Check.row(0), Check.row(1, 0)));
    }
}
