import java.util.NoSuchElementException;

/** Promises 24 to 38: descriptions. */
public final class DescriptionsTest {
    public static void main(String[] args) {
        typing();
        texts();
        describing();
        editing();
        finding();
        findingByCosts();
        signs();
        reading();
        groups();
        fieldsOfReading();
        costs();
        differences();
        mutants();
        covers();
        wrongCalls();
        Check.end();
    }

    private static void typing() {
        Formatseer seer = new Formatseer();
        int count = 0;
        for (char sign : "0123456789cbnNvzsxhri()=".toCharArray()) {
            count++;
            Check.due("24: " + sign, count, () -> seer.type(sign));
        }
        for (char sign : "aCBVZSXHRI[]{}-+ /:;<>?\n\u0000\u00e9\uffff".toCharArray()) {
            Check.dueThrow("24: " + (int) sign, IllegalArgumentException.class, () -> seer.type(sign));
        }
        Check.due("25: all of them", 24, seer::clear);
        Check.due("25: none", 0, seer::clear);
        for (int number = 1; number <= 60; number++) {
            Check.due("24: sign " + number, number, () -> seer.type('h'));
        }
        Check.dueThrow("24: 60 are there", IllegalStateException.class, () -> seer.type('h'));
        Check.dueThrow("24: 60 are there, and no sign", IllegalArgumentException.class, () -> seer.type('q'));
        Check.due("25: sixty", 60, seer::clear);
    }

    private static void texts() {
        String[] good = {"h", "c0", "c255", "c007", "c000", "b1", "b40", "b040", "b001", "z", "s", "x", "n", "N", "nv0",
            "Nv0", "nNv1", "nr0(h)", "ni0=0(h)", "ni0=255(h)", "ni0=007(h)", "nr0(r0(r0(r0(h))))",
            "nr0(i0=1(r0(i0=2(h))))", "nr0(n)v1", "nnnnnnnnnnv9", "nnnnnnnnnnnv9", "ni0=1(n)r1(h)", "nr0(nv1)"};
        for (String text : good) {
            Formatseer seer = new Formatseer();
            Check.due("26: " + text, 0, () -> Check.describe(seer, text));
        }
        String[] bad = {"", "c", "c256", "c999", "c0255", "c1234", "b", "b0", "b000", "b41", "b400", "v0", "nv", "nv1",
            "nv00", "v0n", "n0", "h1", "z0", "nr0", "nr0()", "nr0h", "nr0(h", "nr0h)", "nr(h)", "nr1(h)", "nr00(h)",
            "r0(n)", "nr0(v1)", "nr0(v1n)", "ni0(h)", "ni0=(h)", "ni0=256(h)", "ni0=1()", "ni0=1h", "ni0=0001(h)",
            "i0=1(n)", "ni=1(h)", "()", "(h)", "h)", ")", "(", "=", "1", "hh)", "nr0(h))", "nr0((h))",
            "nr0hh)", "nr0=h)", "ni0h1(h)", "ni0(1(h)", "ni0=1hh)",
            "nr0(r0(r0(r0(r0(h)))))", "nr0(i0=1(r0(i0=2(r0(h)))))", "nr0(r0(r0(r0(h))))r0()", "c=1"};
        for (String text : bad) {
            Formatseer seer = new Formatseer();
            Check.dueThrow("26: " + text, IllegalArgumentException.class, () -> Check.describe(seer, text));
            Check.due("26: the buffer stays", text.length(), seer::clear);
            Check.describe(seer, "ni0=1(r0(hhhhhhhhhhhhhh))");
            Check.dueThrow("26: behind a longer one: " + text, IllegalArgumentException.class,
                    () -> Check.describe(seer, text));
        }
    }

    private static void describing() {
        Formatseer seer = new Formatseer();
        for (int number = 0; number < 6; number++) {
            int due = number;
            Check.due("26: number", due, () -> Check.describe(seer, "hb" + (due + 1)));
            Check.due("26: possible", true, () -> seer.isPossible(due));
            Check.due("26: the buffer is empty", 0, seer::clear);
        }
        Check.dueThrow("26: there are 6", IllegalStateException.class, () -> Check.describe(seer, "h"));
        Check.due("26: the buffer stays", 1, seer::clear);
        Check.dueThrow("26: none, and there are 6", IllegalArgumentException.class, () -> Check.describe(seer, "c"));
        Check.dueThrow("26: no seventh", IndexOutOfBoundsException.class, () -> seer.signAt(6, 0));
    }

    private static void editing() {
        Formatseer seer = new Formatseer();
        Check.dueThrow("27: no description", IndexOutOfBoundsException.class, () -> seer.edit(0));
        Check.describe(seer, "c7hh");
        Check.sample(seer, 5);
        seer.answer(0, true);
        Check.due("27: not possible", false, () -> seer.isPossible(0));
        Check.type(seer, "c7(");
        Check.dueThrow("27: none", IllegalArgumentException.class, () -> seer.edit(0));
        Check.dueThrow("27: none, and no description", IndexOutOfBoundsException.class, () -> seer.edit(1));
        Check.due("27: the buffer stays", 3, seer::clear);
        Check.due("27: still the old one", "c7hh", () -> Check.textOf(seer, 0));
        Check.due("27: still not possible", false, () -> seer.isPossible(0));
        Check.type(seer, "nv0c5hh");
        Check.due("27: the signs it had", 4, () -> seer.edit(0));
        Check.due("27: the buffer is empty", 0, seer::clear);
        Check.due("27: the new one", "nv0c5hh", () -> Check.textOf(seer, 0));
        Check.due("27: possible again", true, () -> seer.isPossible(0));
        Check.type(seer, "h");
        Check.due("27: the signs it had then", 7, () -> seer.edit(0));
        Check.due("27: it reads as the new one", -1, () -> seer.read(0, 0));
    }

    private static String found(int[]... rows) {
        Formatseer seer = new Formatseer();
        for (int[] row : rows) {
            Check.sample(seer, row);
        }
        seer.setLimit(1);
        String text = Check.textOf(seer, seer.find(0));
        for (int sample = 0; sample < rows.length; sample++) {
            if (seer.read(0, sample) != -1) {
                return text + " does not read " + sample;
            }
        }
        return text;
    }

    private static int[] row(int... bytes) {
        return bytes;
    }

    private static void finding() {
        Check.due("28: as long, c and h", "c7hc0c200", () -> found(row(7, 1, 0, 200), row(7, 2, 0, 200)));
        Check.due("28: one sample", "c10c9", () -> found(row(10, 9)));
        Check.due("28: a length", "c7nv0", () -> found(row(7, 1, 5), row(7, 2, 5, 6)));
        Check.due("28: a hole ahead", "hnv0", () -> found(row(8, 1, 5), row(9, 2, 5, 6)));
        Check.due("28: a length and a sum", "nv0s", () -> found(row(1, 5, 6), row(2, 5, 6, 13)));
        Check.due("28: a length and x", "nv0x", () -> found(row(1, 5, 4), row(2, 5, 6, 1)));
        Check.due("28: s if both can be", "nv0s", () -> found(row(1, 4, 5), row(2, 4, 8, 14)));
        Check.due("28: only the relation from the place 0", "throws " + NoSuchElementException.class.getName(),
                () -> thrownBy(row(1, 5, 5), row(2, 5, 6, 11)));
        Check.due("28: numbers have no 0 ahead", "c99c100c9c0c10", () -> found(row(99, 100, 9, 0, 10)));
        Check.due("28: not for a length of two bytes", "throws " + NoSuchElementException.class.getName(),
                () -> thrownBy(row(0, 4, 9, 8, 7), row(0, 3, 9, 8)));
        Check.due("28: ends with 0", "z", () -> found(row(5, 6, 7, 0), row(5, 0)));
        Check.due("28: ends with 0, one sample", "z", () -> found(row(72, 105, 0)));
        Check.due("28: as cheap, the one that is told first", "c1c1", () -> found(row(1, 1)));
        Check.due("28: cheaper than z", "c5c0", () -> found(row(5, 0), row(5, 0), row(5, 0), row(5, 0)));
        Check.due("28: no 0 but at the end", "throws " + NoSuchElementException.class.getName(),
                () -> thrownBy(row(5, 0, 6, 0), row(5, 0)));
        Check.due("28: the first one does not end with 0", "throws " + NoSuchElementException.class.getName(),
                () -> thrownBy(row(5, 6, 7), row(5, 0)));
        Check.due("28: the last one does not end with 0", "throws " + NoSuchElementException.class.getName(),
                () -> thrownBy(row(5, 0), row(5, 6, 7)));
        Check.due("28: no bytes", "throws " + NoSuchElementException.class.getName(), () -> thrownBy(row()));
        Formatseer seer = new Formatseer();
        Check.sample(seer, 200, 201, 202, 203, 204, 205, 206, 207, 208, 209, 210, 211, 212, 213, 214);
        Check.due("28: sixty signs", 0, () -> seer.find(0));
        seer.append(0, 1);
        Check.dueThrow("28: more than sixty", NoSuchElementException.class, () -> seer.find(0));
        Check.due("28: it reads no longer", 15, () -> seer.read(0, 0));
        Check.due("28: which is sound", true, seer::isSound);
        Check.sample(seer, 1);
        Check.type(seer, "hh");
        for (int number = 1; number < 6; number++) {
            seer.find(1);
        }
        Check.dueThrow("28: none, and there are 6", NoSuchElementException.class, () -> seer.find(0));
        Check.dueThrow("28: there are 6", IllegalStateException.class, () -> seer.find(1));
        Check.due("28: the buffer stays", 2, seer::clear);
        Check.due("40: found, so possible", true, () -> seer.isPossible(5));
        seer.setAside(1, true);
        Check.dueThrow("28: set aside, and there are 6", UnsupportedOperationException.class, () -> seer.find(1));
        Check.dueThrow("28: no sample", IndexOutOfBoundsException.class, () -> seer.find(2));
        Formatseer aside = new Formatseer();
        Check.sample(aside, 7, 1);
        Check.sample(aside, 7, 2);
        Check.sample(aside, 7, 3);
        aside.setLimit(500);
        aside.setAside(2, true);
        aside.setAside(1, true);
        aside.find(0);
        Check.due("28: without those that are set aside", "c7c1", () -> Check.textOf(aside, 0));
    }

    private static void findingByCosts() {
        Check.due("28: 202 and 202, the one that is told first", "c1c2c3c4c5nv0", () -> found(
                row(1, 2, 3, 4, 5, 2, 9, 0), row(1, 2, 3, 4, 5, 3, 9, 8, 0), row(1, 2, 3, 4, 5, 1, 0)));
        Check.due("28: 182 and 178", "z", () -> found(
                row(1, 2, 3, 4, 2, 9, 0), row(1, 2, 3, 4, 3, 9, 8, 0), row(1, 2, 3, 4, 1, 0)));
        Check.due("28: 152 and 154", "c1c2nv0s", () -> found(
                row(1, 2, 2, 250, 1, 0), row(1, 2, 1, 252, 0), row(1, 2, 3, 100, 100, 50, 0)));
        Check.due("28: 132 and 130", "z", () -> found(
                row(1, 2, 250, 3, 0), row(1, 1, 254, 0), row(1, 3, 100, 100, 52, 0)));
        Check.due("28: 296 and 298", "c1c2c3c4c5c6c7c8hnv0", () -> found(row(1, 2, 3, 4, 5, 6, 7, 8, 50, 2, 9, 0),
                row(1, 2, 3, 4, 5, 6, 7, 8, 60, 3, 9, 9, 0), row(1, 2, 3, 4, 5, 6, 7, 8, 50, 1, 0)));
        Check.due("28: 276 and 274", "z", () -> found(row(1, 2, 3, 4, 5, 6, 7, 50, 2, 9, 0),
                row(1, 2, 3, 4, 5, 6, 7, 60, 3, 9, 9, 0), row(1, 2, 3, 4, 5, 6, 7, 50, 1, 0)));
        Check.due("28: the second length is cheaper", "hhc1c2c3nv0", () -> found(row(50, 5, 1, 2, 3, 1, 9),
                row(60, 6, 1, 2, 3, 2, 9, 9), row(50, 4, 1, 2, 3, 0)));
        Check.due("28: the first length is as cheap", "nv0", () -> found(row(2, 1, 9), row(3, 2, 9, 9)));
    }

    private static String thrownBy(int[]... rows) {
        try {
            return found(rows);
        } catch (RuntimeException thrown) {
            return "throws " + thrown.getClass().getName();
        }
    }

    private static void signs() {
        Formatseer seer = new Formatseer();
        Check.describe(seer, "ni0=12(b3)");
        Check.due("29: the first", 'n', () -> seer.signAt(0, 0));
        Check.due("29: the last", ')', () -> seer.signAt(0, 9));
        Check.dueThrow("29: behind", NoSuchElementException.class, () -> seer.signAt(0, 10));
        Check.dueThrow("29: ahead", NoSuchElementException.class, () -> seer.signAt(0, -1));
        Check.dueThrow("29: no description", IndexOutOfBoundsException.class, () -> seer.signAt(1, 0));
        Check.dueThrow("29: below", IndexOutOfBoundsException.class, () -> seer.signAt(-1, 0));
    }

    private static int read(String text, int... bytes) {
        Formatseer seer = new Formatseer();
        Check.describe(seer, text);
        Check.sample(seer, bytes);
        return seer.read(0, 0);
    }

    private static void reading() {
        Check.due("30: c", -1, () -> read("c7", 7));
        Check.due("30: another byte", 0, () -> read("c7", 8));
        Check.due("30: no byte", 0, () -> read("c7"));
        Check.due("30: the first byte that is not as told", 0, () -> read("c7h", 8));
        Check.due("30: bytes are left", 1, () -> read("c7", 7, 7, 7));
        Check.due("30: b", -1, () -> read("b3", 7, 8, 9));
        Check.due("30: not enough for b", 2, () -> read("b3", 7, 8));
        Check.due("30: n and v", -1, () -> read("nv0", 2, 8, 9));
        Check.due("30: v of 0", -1, () -> read("nv0", 0));
        Check.due("30: not enough for v", 2, () -> read("nv0", 2, 8));
        Check.due("30: N", -1, () -> read("Nv0", 0, 1, 9));
        Check.due("30: N, the greater one first", 3, () -> read("Nv0", 1, 0, 9));
        Check.due("30: half of N", 1, () -> read("N", 1));
        Check.due("30: z", -1, () -> read("z", 1, 2, 0));
        Check.due("30: z of 0 alone", -1, () -> read("z", 0));
        Check.due("30: z without 0", 2, () -> read("z", 1, 2));
        Check.due("30: z ends at the first 0", 2, () -> read("z", 1, 0, 2, 0));
        Check.due("30: s", -1, () -> read("b3s", 200, 100, 1, 45));
        Check.due("30: another sum", 3, () -> read("b3s", 200, 100, 1, 46));
        Check.due("30: s of nothing", -1, () -> read("s", 0));
        Check.due("30: no byte for s", 1, () -> read("hs", 4));
        Check.due("30: x", -1, () -> read("b3x", 200, 100, 1, 200 ^ 100 ^ 1));
        Check.due("30: another x", 3, () -> read("b3x", 200, 100, 1, 0));
        Check.due("30: sums of sums", -1, () -> read("hsx", 5, 5, 0));
        Check.due("30: h", -1, () -> read("h", 255));
        Check.due("30: no byte for h", 0, () -> read("h"));
        Check.due("30: registers by their order", -1, () -> read("nnv1v0", 1, 2, 7, 7, 7));
        Check.due("30: a register that was not set", -1, () -> read("ni0=9(n)v1h", 8, 5));
        Check.due("30: a register that is set anew", -1, () -> read("nr0(nv1)v1", 2, 1, 7, 2, 7, 7, 9, 9));
    }

    private static void groups() {
        Check.due("30: r of 0", -1, () -> read("nr0(c9)", 0));
        Check.due("30: r of 3", -1, () -> read("nr0(c9)", 3, 9, 9, 9));
        Check.due("30: r of 3, only two", 3, () -> read("nr0(c9)", 3, 9, 9));
        Check.due("30: r of 3, four", 4, () -> read("nr0(c9)", 3, 9, 9, 9, 9));
        Check.due("30: as often as the register is as it begins", 2, () -> read("nr0(c9)c7", 1, 9));
        Check.due("30: r of 300", 40, () -> read("Nr0(h)", full(1, 44)));
        Check.due("30: i", -1, () -> read("ni0=2(hh)h", 2, 1, 1, 1));
        Check.due("30: not i", -1, () -> read("ni0=2(hh)h", 3, 1));
        Check.due("30: i by more than a byte", -1, () -> read("Ni0=255(c5)", 0, 255, 5));
        Check.due("30: N of 256 is not 255", -1, () -> read("Ni0=255(h)", 1, 0));
        Formatseer twice = new Formatseer();
        Check.describe(twice, "ni0=9(n)v1h");
        Check.sample(twice, 9, 2, 5, 5, 5);
        Check.sample(twice, 8, 5);
        Check.due("30: a register is set", -1, () -> twice.read(0, 0));
        Check.due("30: not by a reading before", -1, () -> twice.read(0, 1));
        Check.due("30: four in one another", -1, () -> read("nr0(r0(r0(r0(c3))))", full(2, 3, 16)));
        Formatseer seer = new Formatseer();
        Check.describe(seer, "nnr0(v1)");
        Check.sample(seer, 5, 0);
        Check.due("30: not again behind a time without bytes", -1, () -> seer.read(0, 0));
        Check.due("31: so once", 3, () -> seer.fields(0, 0));
        Formatseer once = new Formatseer();
        Check.describe(once, "nr0(nv1i1=0(v1))");
        Check.sample(once, 3, 2, 7, 7, 0, 1, 9);
        Check.due("30: times differ", -1, () -> once.read(0, 0));
        Check.due("31: fields of all times", 8, () -> once.fields(0, 0));
        Formatseer most = new Formatseer();
        Check.describe(most, "nnr0(r0(r0(r0(v1v1v1v1v1v1v1v1v1v1v1v1v1v1v1v1v1v1v1))))");
        Check.sample(most, 255, 0);
        Check.due("31: each ( ) once only", 21, () -> most.fields(0, 0));
        Check.sample(most, full(255, 1, 40));
        Check.due("31: more of them", 40, () -> most.fields(0, 1));
    }

    private static int[] full(int first, int second) {
        int[] bytes = new int[40];
        bytes[0] = first;
        bytes[1] = second;
        return bytes;
    }

    private static int[] full(int first, int others, int count) {
        int[] bytes = new int[first == 2 ? count + 1 : count];
        java.util.Arrays.fill(bytes, others);
        bytes[0] = first;
        return bytes;
    }

    private static void fieldsOfReading() {
        Formatseer seer = new Formatseer();
        Check.describe(seer, "c7nv0zs");
        Check.sample(seer, 7, 2, 5, 5, 3, 0, 22);
        Check.sample(seer, 7, 0, 0, 8);
        Check.sample(seer, 7, 9, 5);
        int[][] due = {{0, 1}, {1, 1}, {2, 2}, {4, 2}, {6, 1}};
        Check.due("31: all", 5, () -> seer.fields(0, 0));
        for (int field = 0; field < due.length; field++) {
            int one = field;
            Check.due("32: field " + one, due[one][0], () -> seer.fieldAt(0, 0, one));
            Check.due("33: field " + one, due[one][1], () -> seer.fieldSize(0, 0, one));
        }
        Check.due("31: up to where it fails", 4, () -> seer.fields(0, 1));
        Check.due("30: it fails at s", 3, () -> seer.read(0, 1));
        Check.due("32: a field without bytes", 2, () -> seer.fieldAt(0, 1, 2));
        Check.due("33: a field without bytes", 0, () -> seer.fieldSize(0, 1, 2));
        Check.due("31: not the one that fails", 2, () -> seer.fields(0, 2));
        Check.dueThrow("32: behind", NoSuchElementException.class, () -> seer.fieldAt(0, 0, 5));
        Check.dueThrow("32: ahead", NoSuchElementException.class, () -> seer.fieldAt(0, 0, -1));
        Check.dueThrow("33: behind", NoSuchElementException.class, () -> seer.fieldSize(0, 2, 2));
        Check.dueThrow("33: ahead", NoSuchElementException.class, () -> seer.fieldSize(0, 0, -1));
    }

    private static void costs() {
        Formatseer seer = new Formatseer();
        Check.dueThrow("35: none", NoSuchElementException.class, seer::best);
        Check.describe(seer, "c7nv0zsxh");
        Check.due("34: signs alone", 90, () -> seer.cost(0));
        Check.sample(seer, 7, 2, 5, 5, 3, 0, 22, 16, 9);
        Check.due("34: n, v, z and h", 90 + 8 * 6, () -> seer.cost(0));
        Check.sample(seer, 8);
        Check.due("34: one that is not read", 138 + 1000, () -> seer.cost(0));
        seer.setAside(1, true);
        Check.due("34: it is set aside", 138, () -> seer.cost(0));
        Check.describe(seer, "b9");
        Check.due("34: b", 20 + 72, () -> seer.cost(1));
        Check.due("35: the least", 1, seer::best);
        Check.describe(seer, "b9");
        Check.due("35: the lowest number", 1, seer::best);
        Check.describe(seer, "Nb7");
        Check.due("34: N", 30 + 72, () -> seer.cost(3));
        seer.answer(0, false);
        Check.due("35: those that are not possible too", 1, seer::best);
        seer.setAside(0, true);
        Check.due("34: all are set aside", 20, () -> seer.cost(2));
    }

    private static void differences() {
        Formatseer seer = new Formatseer();
        Check.describe(seer, "c7nv0s");
        Check.describe(seer, "c7nv0x");
        Check.describe(seer, "nr0(hhc7)c7");
        Check.describe(seer, "nr0(hhc8)c7");
        Check.describe(seer, "c007hnv0s");
        Check.describe(seer, "hhh");
        Check.due("36: the same one", 0, () -> seer.differ(0, 0));
        Check.due("36: one changed", 1, () -> seer.differ(0, 1));
        Check.due("36: within ( ) is a part", 1, () -> seer.differ(2, 3));
        Check.due("36: texts of items", 2, () -> seer.differ(0, 4));
        Check.due("36: the other way round", 2, () -> seer.differ(4, 0));
        Check.due("36: left out and changed", 4, () -> seer.differ(5, 0));
        Check.due("36: one added, n alike, two changed", 3, () -> seer.differ(2, 0));
        Check.dueThrow("36: no first", IndexOutOfBoundsException.class, () -> seer.differ(6, 0));
        Check.dueThrow("36: no other", IndexOutOfBoundsException.class, () -> seer.differ(0, -1));
    }

    private static void mutants() {
        Formatseer seer = new Formatseer();
        Check.describe(seer, "c7nv0hsxb1zs");
        Check.sample(seer, 7, 1, 5, 6, 19, 28 ^ 19 ^ 6 ^ 5 ^ 1 ^ 7 ^ 28, 9, 3, 0, 0);
        int x = 19 ^ 6 ^ 5 ^ 1 ^ 7;
        int last = 7 + 1 + 5 + 6 + 19 + x + 9 + 3 & 255;
        Check.sample(seer, 7, 1, 5, 6, 19, x, 9, 3, 0, last);
        Check.due("37: it is read", -1, () -> seer.read(0, 1));
        for (int place : new int[] {-1, 0, 1, 4, 5, 8, 9, 10, Integer.MAX_VALUE, Integer.MIN_VALUE}) {
            Check.dueThrow("37: place " + place, UnsupportedOperationException.class,
                    () -> seer.mutant(0, 1, place, 2));
        }
        Check.dueThrow("37: 0 in z", UnsupportedOperationException.class, () -> seer.mutant(0, 1, 7, 0));
        Check.dueThrow("37: it is not read", UnsupportedOperationException.class, () -> seer.mutant(0, 0, 2, 2));
        Check.dueThrow("37: byte 256", IllegalArgumentException.class, () -> seer.mutant(0, 0, 99, 256));
        Check.dueThrow("37: byte -1", IllegalArgumentException.class, () -> seer.mutant(0, 1, 2, -1));
        Check.dueThrow("37: no description", IndexOutOfBoundsException.class, () -> seer.mutant(1, 1, 2, 256));
        Check.dueThrow("37: no sample", IndexOutOfBoundsException.class, () -> seer.mutant(0, 2, 2, 256));
        Check.due("37: v", 2, () -> seer.mutant(0, 1, 2, 250));
        int s = 7 + 1 + 250 + 6 & 255;
        int mixed = 7 ^ 1 ^ 250 ^ 6 ^ s;
        int sum = 7 + 1 + 250 + 6 + s + mixed + 9 + 3 & 255;
        Check.due("37: sums mended in their order", "7 1 250 6 " + s + " " + mixed + " 9 3 0 " + sum,
                () -> Check.bytesOf(seer, 2));
        Check.due("37: the new one is read", -1, () -> seer.read(0, 2));
        Check.due("37: the old one stays", 5, () -> seer.byteAt(1, 2));
        Check.due("37: h", 3, () -> seer.mutant(0, 1, 3, 0));
        Check.due("37: b", 4, () -> seer.mutant(0, 1, 6, 0));
        Check.due("37: z", 5, () -> seer.mutant(0, 1, 7, 255));
        Check.due("37: the same byte", 6, () -> seer.mutant(0, 1, 7, 3));
        Check.due("37: is the same sample", 1000, () -> seer.likeness(1, 6));
        seer.setAside(1, true);
        Check.due("37: of one that is set aside", 7, () -> seer.mutant(0, 1, 2, 4));
        Check.due("37: the new one is not", false, () -> seer.setAside(7, false));
        seer.sample();
        seer.sample();
        Check.dueThrow("37: there are 10", IllegalStateException.class, () -> seer.mutant(0, 1, 2, 4));
        Check.dueThrow("37: there are 10, and no field", UnsupportedOperationException.class,
                () -> seer.mutant(0, 1, 0, 4));
    }

    private static int covered(String text, int[]... rows) {
        Formatseer seer = new Formatseer();
        Check.describe(seer, text);
        for (int[] row : rows) {
            Check.sample(seer, row);
        }
        return seer.cover(0);
    }

    private static void covers() {
        Check.due("38: nothing is shown", 0, () -> covered("nv0", row(0), row(1, 1)));
        Check.due("38: no sample", 0, () -> covered("nr0(h)"));
        Check.due("38: none is read", 0, () -> covered("nr0(h)", row(9), row(9)));
        Check.due("38: r: none, once, more", 3, () -> covered("nr0(h)", row(0), row(1, 1), row(2, 1, 1)));
        Check.due("38: more is one thing", 2, () -> covered("nr0(h)", row(0), row(3, 1, 1, 1), row(2, 1, 1)));
        Check.due("38: i: read, or not", 2, () -> covered("ni0=1(h)", row(0), row(1, 1), row(2)));
        Check.due("38: each time that it comes", 1, () -> covered("nr0(nr1(h))",
                row(3, 0, 1, 5, 2, 5, 5), row(2, 1, 5, 2, 5, 5)));
        Check.due("38: two for both", 2, () -> covered("nr0(h)ni1=0(h)",
                row(0, 1), row(1, 9, 0, 9), row(0, 0, 9), row(1, 9, 1)));
        Check.due("38: as often as begun, not as the register is", 1, () -> covered("nnr0(v1)",
                row(3, 0), row(1, 0), row(1, 2, 7, 7)));
        Check.due("38: each item in the text", 2, () -> covered("nr0(h)r0(h)", row(1, 5, 5), row(0), row(1, 6, 6)));
        Formatseer edited = new Formatseer();
        Check.describe(edited, "h");
        for (int turn = 0; turn < 30; turn++) {
            Check.type(edited, "nr0(h)ni1=0(h)");
            edited.edit(0);
        }
        for (int[] bytes : new int[][] {{0, 1}, {1, 9, 0, 9}, {0, 0, 9}, {1, 9, 1}}) {
            Check.sample(edited, bytes);
        }
        Check.due("38: edited often", 2, () -> edited.cover(0));
        Formatseer seer = new Formatseer();
        Check.describe(seer, "nr0(h)");
        Check.sample(seer, 0);
        Check.sample(seer, 1, 1);
        seer.setAside(1, true);
        Check.due("38: not of one that is set aside", 1, () -> seer.cover(0));
    }

    private static void wrongCalls() {
        Formatseer seer = new Formatseer();
        Check.sample(seer, 1);
        Check.dueThrow("30: no description", IndexOutOfBoundsException.class, () -> seer.read(0, 0));
        Check.dueThrow("31: no description", IndexOutOfBoundsException.class, () -> seer.fields(0, 0));
        Check.dueThrow("32: no description", IndexOutOfBoundsException.class, () -> seer.fieldAt(0, 0, 9));
        Check.dueThrow("33: no description", IndexOutOfBoundsException.class, () -> seer.fieldSize(0, 0, 9));
        Check.dueThrow("34: no description", IndexOutOfBoundsException.class, () -> seer.cost(0));
        Check.dueThrow("38: no description", IndexOutOfBoundsException.class, () -> seer.cover(-1));
        Check.describe(seer, "h");
        Check.dueThrow("30: no sample", IndexOutOfBoundsException.class, () -> seer.read(0, 1));
        Check.dueThrow("31: no sample", IndexOutOfBoundsException.class, () -> seer.fields(0, -1));
        Check.dueThrow("32: no sample", IndexOutOfBoundsException.class, () -> seer.fieldAt(0, 1, 9));
        Check.dueThrow("33: no sample", IndexOutOfBoundsException.class, () -> seer.fieldSize(0, 1, 9));
        Check.dueThrow("34: no second description", IndexOutOfBoundsException.class, () -> seer.cost(1));
        seer.setAside(0, true);
        Check.due("30: of one that is set aside", -1, () -> seer.read(0, 0));
        Check.due("31: of one that is set aside", 1, () -> seer.fields(0, 0));
    }
}
