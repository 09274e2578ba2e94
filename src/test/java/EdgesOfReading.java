import java.util.NoSuchElementException;

/** The cases at the edges of reading and of costs, by the sentences that name them. */
final class EdgesOfReading {
    private EdgesOfReading() {
    }

    static void all() {
        fromThePlaceZero();
        otherBytes();
        tooFewBytes();
        bytesThatAreLeft();
        singleItems();
        sums();
        registers();
        repeats();
        timesWithoutBytes();
        conditions();
        registersThatWereNotSet();
        fields();
        numbersOfFields();
        costs();
        bestOnes();
    }

    private static int read(String text, int... bytes) {
        Formatseer seer = Check.seerOf(600, bytes);
        Check.describe(seer, text);
        return seer.read(0, 0);
    }

    /** All fields as place and size, and where it fails, if it does. */
    private static String told(String text, int... bytes) {
        Formatseer seer = Check.seerOf(600, bytes);
        Check.describe(seer, text);
        String fields = Check.fieldsOf(seer, 0, 0);
        int fails = seer.read(0, 0);
        return fails < 0 ? fields : (fields + " fails " + fails).trim();
    }

    private static void fromThePlaceZero() {
        Sentence.of("A description reads a sample from the place 0 on, item by item.");
        Check.due("place 0", -1, () -> read("c7", 7));
        Check.due("not from place 1", 0, () -> read("c7", 8, 7));
        Check.due("one behind the other", "0+1 1+2 3+1", () -> told("c7b2c9", 7, 1, 2, 9));
        Check.due("forty bytes", "0+40", () -> told("b40", Check.filled(40, 3)));
        Check.due("forty items", -1, () -> read("h".repeat(40), Check.filled(40, 3)));
    }

    private static void otherBytes() {
        Sentence.of("It fails at the first byte that is not as told");
        Check.due("c at the beginning", 0, () -> read("c7c8", 9, 9));
        Check.due("c at the end", 1, () -> read("c7c8", 7, 9));
        Check.due("s", 1, () -> read("hs", 5, 6));
        Check.due("x", 2, () -> read("hhx", 5, 6, 4));
        Check.due("c in ( )", 2, () -> read("nr0(c1)", 2, 1, 2));
        Check.due("not at a later one", 0, () -> read("c7b40", 9));
    }

    private static void tooFewBytes() {
        Sentence.of("or at the end if there are not enough");
        for (String text : new String[] {"c7", "b1", "b40", "n", "N", "z", "s", "x", "h"}) {
            Check.due(text + ", no byte", 0, () -> read(text));
            Check.due(text + ", no byte behind another one", 1, () -> read("h" + text, 200));
        }
        Check.due("half of N", 1, () -> read("N", 0));
        Check.due("39 of 40", 39, () -> read("b40", Check.filled(39, 0)));
        Check.due("1 of 2 for v", 2, () -> read("nv0", 2, 9));
        Check.due("none of 255 for v", 1, () -> read("nv0", 255));
        Check.due("38 of 65535 for v", 40, () -> read("Nv0", Check.filled(40, 255)));
        Check.due("z without its 0", 3, () -> read("z", 1, 2, 3));
        Check.due("the second z without its 0", 4, () -> read("zz", 1, 0, 2, 3));
        Check.due("what there was not enough for is no field", "0+1 fails 3", () -> told("nb3", 1, 2, 3));
    }

    private static void bytesThatAreLeft() {
        Sentence.of("and behind its last item if bytes are left, at the first of these.");
        Check.due("one", 1, () -> read("h", 1, 2));
        Check.due("39", 1, () -> read("h", Check.filled(40, 2)));
        Check.due("behind ( ) that are not read", 1, () -> read("nr0(h)", 0, 2));
        Check.due("behind z", 2, () -> read("z", 1, 0, 0));
        Check.due("none is left", -1, () -> read("hh", 1, 2));
        Check.due("all fields are there", "0+1 fails 1", () -> told("h", 1, 2));
    }

    private static void singleItems() {
        Sentence.of("c and a number up to 255: this byte.");
        Check.due("0", -1, () -> read("c0", 0));
        Check.due("255", -1, () -> read("c255", 255));
        Check.due("254 is not 255", 0, () -> read("c255", 254));
        Sentence.of("b and a number from 1 to 40: so many bytes.");
        Check.due("1", "0+1", () -> told("b1", 0));
        Check.due("40", "0+40", () -> told("b40", Check.filled(40, 0)));
        Check.due("2 is not 1", 1, () -> read("b1", 0, 0));
        Sentence.of("n: a byte, N: two bytes, the greater one first");
        Check.due("n", "0+1", () -> told("n", 0));
        Check.due("N", "0+2", () -> told("N", 0, 0));
        Check.due("N of 0, 3 is 3", "0+2 2+3", () -> told("Nv0", 0, 3, 7, 7, 7));
        Check.due("N of 3, 0 is 768", "0+2 fails 5", () -> told("Nv0", 3, 0, 7, 7, 7));
        Check.due("n of 255", "0+1 fails 2", () -> told("nv0", 255, 7));
        Sentence.of("v and a register: as many bytes as it is.");
        Check.due("0", "0+1 1+0", () -> told("nv0", 0));
        Check.due("39", "0+1 1+39", () -> told("nv0", Check.filled(40, 7, 39)));
        Check.due("twice", "0+1 1+1 2+1", () -> told("nv0v0", 1, 8, 9));
        Sentence.of("z: bytes other than 0, and a 0 behind them.");
        Check.due("no bytes other than 0", "0+1", () -> told("z", 0));
        Check.due("39 of them", "0+40", () -> told("z", zeroAtTheEnd(40)));
        Check.due("up to the first 0", "0+2 2+1", () -> told("zz", 1, 0, 0));
        Check.due("255 is other than 0", "0+2", () -> told("z", 255, 0));
        Sentence.of("h: one byte, a hole.");
        Check.due("any one", "0+1 1+1", () -> told("hh", 0, 255));
    }

    private static int[] zeroAtTheEnd(int size) {
        int[] bytes = Check.filled(size, 9);
        bytes[size - 1] = 0;
        return bytes;
    }

    private static void sums() {
        Sentence.of("s: a byte that is the sum of all bytes ahead of it, modulo 256");
        Check.due("of none", -1, () -> read("s", 0));
        Check.due("of none, not 1", 0, () -> read("s", 1));
        Check.due("255", -1, () -> read("hhs", 254, 1, 255));
        Check.due("256", -1, () -> read("hhs", 255, 1, 0));
        Check.due("511", -1, () -> read("hhhs", 255, 255, 1, 255));
        Check.due("of sums too", -1, () -> read("hss", 5, 5, 10));
        Sentence.of("x: one that is these by exclusive or.");
        Check.due("of none", -1, () -> read("x", 0));
        Check.due("of none, not 1", 0, () -> read("x", 1));
        Check.due("of one", -1, () -> read("hx", 255, 255));
        Check.due("of two", -1, () -> read("hhx", 255, 1, 254));
        Check.due("of all, not of the last two", 3, () -> read("hhhx", 255, 1, 2, 3));
        Check.due("of x too", -1, () -> read("hxx", 5, 5, 0));
    }

    private static void registers() {
        Sentence.of("these set registers, which are numbered from 0 by the n and N in the text.");
        Check.due("0 and 1", "0+1 1+2 3+1 4+2", () -> told("nNv0v1", 1, 0, 2, 9, 8, 7));
        Check.due("9, the tenth one", -1, () -> read("nnnnnnnnnnv9", 0, 0, 0, 0, 0, 0, 0, 0, 0, 2, 7, 7));
        Check.due("those in ( ) that are not read have numbers too", "0+1 1+1 2+1",
                () -> told("ni0=9(n)nv2", 0, 1, 7));
        Check.due("one that is set again and again", "0+1 1+1 2+1 3+1 4+2 6+2",
                () -> told("nr0(nv1)v1", 2, 1, 7, 2, 7, 7, 9, 9));
    }

    private static void repeats() {
        Sentence.of("r, a register and items in ( ): the items as often as the register is as it begins");
        Check.due("0 times", "0+1", () -> told("nr0(c9)", 0));
        Check.due("once", "0+1 1+1", () -> told("nr0(c9)", 1, 9));
        Check.due("twice", "0+1 1+1 2+1", () -> told("nr0(c9)", 2, 9, 9));
        Check.due("39 times", -1, () -> read("nr0(c9)", Check.filled(40, 9, 39)));
        Check.due("40 times are too many", 40, () -> read("nr0(c9)", Check.filled(40, 9, 40)));
        Check.due("65535 times are too many", 40, () -> read("Nr0(c255)", Check.filled(40, 255)));
        Check.due("no more than that", 2, () -> read("nr0(c9)", 1, 9, 9));
        Check.due("as it is when it begins, in each time", "0+1 1+1 2+1 3+1 4+1 5+1 6+1",
                () -> told("nr0(nr1(h))", 2, 1, 7, 3, 7, 7, 7));
        Check.due("four in one another", 17, () -> told("nr0(r0(r0(r0(h))))", Check.filled(17, 2)).split(" ").length);
    }

    private static void timesWithoutBytes() {
        Sentence.of("but not again behind a time by which no byte was read.");
        Check.due("once, without bytes", "0+1 1+1 2+0", () -> told("nnr0(v1)", 9, 0));
        Check.due("each time, with a byte", "0+1 1+1 2+1 3+1", () -> told("nnr0(v1)", 2, 1, 7, 7));
        Check.due("fields without bytes, and one with a byte, are a time with bytes", "0+1 1+1 2+0 2+1 3+0 3+1",
                () -> told("nnr0(v1h)", 2, 0, 7, 7));
        Check.due("no items at all were read", "0+1 1+1", () -> told("nr0(i0=9(h))h", 200, 7));
        Check.due("each pair of ( ) once", "0+1 1+1 2+0", () -> told("nnr0(r0(r0(r0(v1))))", 255, 0));
        Check.due("behind it what comes is read", "0+1 1+1 2+0 2+1", () -> told("nnr0(v1)c7", 9, 0, 7));
    }

    private static void conditions() {
        Sentence.of("i, a register, =, a number up to 255, and items in ( ): the items if the register is this"
                + " number.");
        Check.due("it is 0", "0+1 1+1", () -> told("ni0=0(h)", 0, 7));
        Check.due("it is not 0", "0+1", () -> told("ni0=0(h)", 1));
        Check.due("it is 255", "0+1 1+1", () -> told("ni0=255(h)", 255, 7));
        Check.due("it is 255 of two bytes", "0+2 2+1", () -> told("Ni0=255(h)", 0, 255, 7));
        Check.due("it is 256, not 0", "0+2", () -> told("Ni0=0(h)", 1, 0));
        Check.due("it is 256, not 255", "0+2", () -> told("Ni0=255(h)", 1, 0));
        Check.due("once only", 2, () -> read("ni0=3(h)", 3, 7, 7));
    }

    private static void registersThatWereNotSet() {
        Sentence.of("A register that was not set yet is 0.");
        Check.due("for v", "0+1 1+0 1+1", () -> told("ni0=9(n)v1h", 8, 7));
        Check.due("for r", "0+1", () -> told("ni0=9(n)r1(h)", 8));
        Check.due("for i", "0+1 1+1", () -> told("ni0=9(n)i1=0(h)", 8, 7));
        Formatseer seer = Check.seerOf(600, Check.row(9, 2, 7, 7), Check.row(8));
        Check.describe(seer, "ni0=9(n)v1");
        Check.due("it is set", -1, () -> seer.read(0, 0));
        Check.due("not by another reading", -1, () -> seer.read(0, 1));
        Check.due("and again", -1, () -> seer.read(0, 0));
    }

    private static void fields() {
        Sentence.of("Each c, b, n, N, v, z, s, x and h that was read is a field, also without bytes.");
        Check.due("one of each", "0+1 1+2 3+1 4+2 6+1 7+2 9+1 10+1 11+1",
                () -> told("c7b2nNv0zsxh", 7, 1, 2, 1, 0, 5, 6, 3, 0, 25, 7 ^ 1 ^ 2 ^ 1 ^ 5 ^ 6 ^ 3 ^ 25, 9));
        Check.due("without bytes", "0+1 1+0 1+0", () -> told("nv0v0", 0));
        Check.due("r and i are none", "0+1 1+1 2+1", () -> told("nr0(h)i0=1(h)", 1, 7, 8));
        Formatseer seer = Check.seerOf(600, Check.row(0), Check.row(2, 8, 8), Check.row(2, 7), Check.row(1, 8));
        Check.describe(seer, "nr0(c8)");
        Check.due("one sample", "0+1", () -> Check.fieldsOf(seer, 0, 0));
        Check.due("another one behind it", "0+1 1+1 2+1", () -> Check.fieldsOf(seer, 0, 1));
        Check.due("one that fails in ( )", "0+1", () -> Check.fieldsOf(seer, 0, 2));
        Check.due("one behind that", "0+1 1+1", () -> Check.fieldsOf(seer, 0, 3));
        Check.due("it fails there", 1, () -> seer.read(0, 2));
        Check.due("and the next one is read anew", -1, () -> seer.read(0, 3));
        Sentence.of(31, "Returns how many fields are read of a sample, up to where it fails.");
        Check.due("none", "fails 0", () -> told("c7h", 8, 8));
        Check.due("none of an empty sample", "fails 0", () -> told("h"));
        Check.due("up to the third one", "0+1 1+1 fails 2", () -> told("c7hc9", 7, 8, 8));
        Check.due("a field without bytes ahead of that", "0+1 1+0 fails 1", () -> told("nv0c9", 0, 8));
    }

    private static void numbersOfFields() {
        Formatseer seer = Check.seerOf(600, Check.row(0), Check.row(3, 9), Check.row());
        Check.describe(seer, "nv0");
        Sentence.of(32, "- `field`: the number of the field, from 0");
        Check.due("the first", 0, () -> seer.fieldAt(0, 0, 0));
        Check.due("the last, behind all bytes", 1, () -> seer.fieldAt(0, 0, 1));
        for (int field : new int[] {-1, 2, Integer.MAX_VALUE, Integer.MIN_VALUE}) {
            Check.dueThrow("field " + field, NoSuchElementException.class, () -> seer.fieldAt(0, 0, field));
        }
        Check.dueThrow("the one that was not read", NoSuchElementException.class, () -> seer.fieldAt(0, 1, 1));
        Check.dueThrow("none at all", NoSuchElementException.class, () -> seer.fieldAt(0, 2, 0));
        Sentence.of(33, "- `field`: the number of the field, from 0");
        Check.due("the first", 1, () -> seer.fieldSize(0, 0, 0));
        Check.due("the last, without bytes", 0, () -> seer.fieldSize(0, 0, 1));
        for (int field : new int[] {-1, 2, Integer.MAX_VALUE, Integer.MIN_VALUE}) {
            Check.dueThrow("field " + field, NoSuchElementException.class, () -> seer.fieldSize(0, 0, field));
        }
        Check.dueThrow("the one that was not read", NoSuchElementException.class, () -> seer.fieldSize(0, 1, 1));
        Check.dueThrow("none at all", NoSuchElementException.class, () -> seer.fieldSize(0, 2, 0));
        Sentence.of(30, "Returns the place at which it fails, or -1.");
        Check.due("-1", -1, () -> seer.read(0, 0));
        Check.due("the end", 2, () -> seer.read(0, 1));
        Check.due("0", 0, () -> seer.read(0, 2));
    }

    private static int cost(String text, int[]... rows) {
        Formatseer seer = Check.seerOf(600, rows);
        Check.describe(seer, text);
        return seer.cost(0);
    }

    private static void costs() {
        Sentence.of("A description costs 10 for each of its signs, and for each sample 8 for each byte of fields"
                + " other than"
                + " c, s and x");
        Check.due("no samples", 10, () -> cost("h"));
        Check.due("sixty signs", 600, () -> cost("h".repeat(60)));
        Check.due("c, s and x", 60, () -> cost("c7c0sx", Check.row(7, 0, 7, 0)));
        Check.due("b", 20 + 16, () -> cost("b2", Check.row(7, 8)));
        Check.due("n, and v without bytes", 30 + 8, () -> cost("nv0", Check.row(0)));
        Check.due("N, and v of 2 bytes", 30 + 32, () -> cost("Nv0", Check.row(0, 2, 7, 8)));
        Check.due("z, with its 0", 10 + 16, () -> cost("z", Check.row(7, 0)));
        Check.due("h", 10 + 8, () -> cost("h", Check.row(7)));
        Check.due("two samples", 10 + 16, () -> cost("h", Check.row(7), Check.row(8)));
        Sentence.of("or 1000 if it does not read the sample.");
        Check.due("too short", 10 + 1000, () -> cost("h", Check.row()));
        Check.due("too long, its fields do not count", 10 + 1000, () -> cost("h", Check.row(7, 8)));
        Check.due("one of two", 10 + 8 + 1000, () -> cost("h", Check.row(7, 8), Check.row(7)));
        Check.due("ten", 10 + 10000, () -> cost("h", new int[10][0]));
        Formatseer seer = Check.seerOf(600, Check.row(7, 8), Check.row(7));
        Check.describe(seer, "h");
        seer.setAside(0, true);
        Check.due("not of one that is set aside", 10 + 8, () -> seer.cost(0));
    }

    private static void bestOnes() {
        Sentence.of(35, "Returns the description with the least cost, of several the lowest number.");
        Formatseer seer = Check.seerOf(600, Check.row(7));
        Check.dueThrow("there are none", NoSuchElementException.class, seer::best);
        Check.describe(seer, "hh");
        Check.due("the only one, which does not read it", 0, seer::best);
        Check.describe(seer, "b1");
        Check.due("28 is less than 1020", 1, seer::best);
        Check.describe(seer, "b1");
        Check.due("28 and 28", 1, seer::best);
        Check.describe(seer, "h");
        Check.due("18", 3, seer::best);
        Check.describe(seer, "n");
        Check.due("18 and 18", 3, seer::best);
        Check.describe(seer, "h");
        Check.due("18 three times, the last of six", 3, seer::best);
        seer.answer(0, false);
        Check.due("also of those that are not possible", 3, seer::best);
        Check.type(seer, "hhhhhhhh");
        seer.edit(3);
        Check.due("it was edited", 4, seer::best);
        seer.setAside(0, true);
        Check.due("by signs alone", 4, seer::best);
    }
}
