import java.util.NoSuchElementException;

/** The cases at the edges of typing and of the texts of descriptions, by the sentences that name them. */
final class EdgesOfTexts {
    private static final String SIXTY = "h".repeat(60);

    private EdgesOfTexts() {
    }

    static void all() {
        signs();
        buffers();
        numbersOfDescriptions();
        items();
        numbersOfItems();
        digits();
        registers();
        groups();
        itemsInGroups();
        describing();
        editing();
        signNumbers();
    }

    private static void signs() {
        Sentence.of(24, "if it is neither a digit nor one of c b n N v z s x h r i ( ) =");
        String good = "0123456789cbnNvzsxhri()=";
        Formatseer seer = new Formatseer();
        int count = 0;
        for (char sign = 0; sign < 300; sign++) {
            char one = sign;
            if (good.indexOf(one) >= 0) {
                count++;
                Check.due("sign " + (int) one, count, () -> seer.type(one));
            } else {
                Check.dueThrow("sign " + (int) one, IllegalArgumentException.class, () -> seer.type(one));
            }
        }
        Check.dueThrow("the last sign of all", IllegalArgumentException.class, () -> seer.type('\uffff'));
        Check.dueThrow("a digit of another script", IllegalArgumentException.class, () -> seer.type('\u0663'));
        Check.due("all 24", 24, seer::clear);
    }

    private static void buffers() {
        Sentence.of("texts of at most 60 signs, typed into a buffer");
        Formatseer seer = new Formatseer();
        for (int count = 1; count <= 60; count++) {
            Check.due("sign", count, () -> seer.type('h'));
        }
        Check.dueThrow("sign 61", IllegalStateException.class, () -> seer.type('h'));
        Check.due("sixty signs are a description", 0, seer::describe);
        Check.due("its last sign", 'h', () -> seer.signAt(0, 59));
        Check.dueThrow("it has no more", NoSuchElementException.class, () -> seer.signAt(0, 60));
        Check.due("there is room again", 1, () -> seer.type('('));
        Sentence.of(25, "Returns how many were there.");
        Check.due("one", 1, seer::clear);
        Check.due("none", 0, seer::clear);
        Check.type(seer, SIXTY);
        Check.due("sixty", 60, seer::clear);
        Check.due("room again", 1, () -> seer.type('h'));
    }

    private static void numbersOfDescriptions() {
        Sentence.of("At most 6 descriptions are numbered from 0");
        Formatseer seer = Check.seerOf(600, Check.row(1));
        for (int number = 0; number < 6; number++) {
            int due = number;
            Check.dueThrow("not yet", IndexOutOfBoundsException.class, () -> seer.cost(due));
            Check.due("its number", due, () -> due % 2 == 0 ? Check.describe(seer, "h") : seer.find(0));
            Check.due("it is there", true, () -> seer.isPossible(due));
        }
        Check.dueThrow("a seventh one", IllegalStateException.class, () -> Check.describe(seer, "h"));
        Check.dueThrow("a seventh one that is found", IllegalStateException.class, () -> seer.find(0));
        Check.dueThrow("is not there", IndexOutOfBoundsException.class, () -> seer.cost(6));
        Check.due("the sixth can be edited", 2, () -> seer.edit(5));
    }

    /** Whether it is a description, which leaves the buffer empty; one that is none must leave it as it was. */
    private static boolean isOne(String text) {
        Formatseer seer = new Formatseer();
        try {
            return Check.describe(seer, text) == 0 && seer.clear() == 0 && Check.textOf(seer, 0).equals(text);
        } catch (IllegalArgumentException none) {
            return seer.clear() != text.length();
        }
    }

    private static void good(String... texts) {
        for (String text : texts) {
            Check.due(text, true, () -> isOne(text));
        }
    }

    private static void bad(String... texts) {
        for (String text : texts) {
            Check.due(text, false, () -> isOne(text));
        }
    }

    private static void items() {
        Sentence.of("items, one or more, behind one another.");
        bad("");
        good("h", "hh", "zs", "xz", "c1b1nNv0v1zsxhr0(h)i1=1(h)", SIXTY);
        bad("1", "(", ")", "=", "()", "(h)", "h)", "h(", "h=", "hh1", "=h", "h()", "h(h)");
    }

    private static void numbersOfItems() {
        Sentence.of("c and a number up to 255: this byte.");
        good("c0", "c1", "c254", "c255");
        bad("c", "ch", "c256", "c260", "c300", "c999");
        Sentence.of("b and a number from 1 to 40: so many bytes.");
        good("b1", "b2", "b39", "b40");
        bad("b", "b0", "b00", "b000", "b41", "b50", "b100", "b999", "bh");
        Sentence.of("i, a register, =, a number up to 255, and items in ( ): the items if the register is this"
                + " number.");
        good("ni0=0(h)", "ni0=255(h)", "Ni0=1(hh)");
        bad("ni0=256(h)", "ni0=999(h)", "ni0=(h)", "ni0(h)", "ni=1(h)", "ni0=1h", "ni0=1", "i0=1(h)", "ni01(h)");
        Sentence.of("z: bytes other than 0, and a 0 behind them.");
        good("z", "zz");
        bad("z1", "z0", "z(h)");
        Sentence.of("h: one byte, a hole.");
        good("h", "hh");
        bad("h1", "h0");
    }

    private static void digits() {
        Sentence.of("Numbers have one to three digits, registers one");
        good("c7", "c07", "c007", "c12", "c012", "c123", "b4", "b04", "b004", "b40", "b040", "ni0=9(h)", "ni0=09(h)",
                "ni0=009(h)", "c000");
        bad("c0007", "c0000", "c1234", "b0004", "b0040", "ni0=0009(h)", "ni0=0000(h)", "nv00", "nv01", "nNv01",
                "nr00(h)", "ni00=1(h)", "nv", "nr(h)", "n0", "N1", "s1", "x1");
    }

    private static void registers() {
        Sentence.of("a register is one of an n or N ahead in the text");
        good("nv0", "Nv0", "nNv0v1", "nnnnnnnnnnv9", "nnnnnnnnnnnnv9", "nhv0", "nr0(n)v1", "ni0=1(n)v1", "nr0(nv1)");
        bad("v0", "v0n", "nv1", "nv1n", "nNv2", "nnnnnnnnnv9", "r0(h)", "r0(n)", "r0(h)n", "nr1(h)", "nr1(n)",
                "nr0(v1n)", "nr0(v1)n", "ni1=1(h)", "ni1=1(n)", "hv0", "nr9(h)");
        Formatseer again = new Formatseer();
        Check.describe(again, "nnv1");
        Check.dueThrow("not in the text ahead of this one", IllegalArgumentException.class,
                () -> Check.describe(again, "v0"));
        Check.dueThrow("nor the second one", IllegalArgumentException.class, () -> Check.describe(again, "nv1"));
        Sentence.of("these set registers, which are numbered from 0 by the n and N in the text.");
        Formatseer seer = Check.seerOf(600, Check.row(1, 0, 2, 0, 9, 8, 7), Check.row(0, 1, 9), Check.row(1, 0, 9));
        Check.describe(seer, "nNnv2v0v1");
        Check.due("2 is the third one, 0 the first, 1 the second one", "0+1 1+2 3+1 4+0 4+1 5+2",
                () -> Check.fieldsOf(seer, 0, 0));
        Check.describe(seer, "Nv0");
        Check.due("the greater one first: 1", -1, () -> seer.read(1, 1));
        Check.due("the greater one first: 256", 3, () -> seer.read(1, 2));
    }

    private static void groups() {
        Sentence.of("at most 4 pairs of ( ) stand in one another.");
        good("nr0(r0(r0(r0(h))))", "ni0=1(i0=1(i0=1(i0=1(h))))", "nr0(i0=1(r0(i0=2(h))))", "nr0(r0(r0(r0(h))))r0(h)",
                "nr0(r0(r0(hr0(h)r0(h))))", "nr0(h)r0(h)r0(h)r0(h)r0(h)r0(h)");
        bad("nr0(r0(r0(r0(r0(h)))))", "ni0=1(i0=1(i0=1(i0=1(i0=1(h)))))", "nr0(i0=1(r0(i0=2(r0(h)))))",
                "nr0(r0(r0(r0(hr0(h)))))", "nr0(r0(r0(r0(h)r0(r0(h)))))");
    }

    private static void itemsInGroups() {
        Sentence.of("There are one or more items in ( ), too.");
        good("nr0(h)", "nr0(hh)", "ni0=1(h)", "nr0(r0(h))");
        bad("nr0()", "ni0=1()", "nr0(r0())", "nr0(h)r0()", "nr0()h", "nr0(h", "nr0", "nr0(", "nr0h)", "nr0(h))",
                "nr0((h))", "nr0(r0(h)", "nr0(())");
    }

    private static void describing() {
        Sentence.of(26, "Adds the buffer as a description, which is possible then; the buffer is empty then.");
        Formatseer seer = Check.seerOf(600, Check.row(1));
        Check.describe(seer, "hh");
        seer.answer(0, true);
        Check.due("not this one", false, () -> seer.isPossible(0));
        Check.due("the next one", 1, () -> Check.describe(seer, "hhh"));
        Check.due("is possible", true, () -> seer.isPossible(1));
        Check.due("the buffer is empty", 0, seer::clear);
        Check.dueThrow("an empty buffer is none", IllegalArgumentException.class, seer::describe);
    }

    private static void editing() {
        Sentence.of(27, "Replaces a description by the buffer; it is empty then.");
        Formatseer seer = Check.seerOf(600, Check.row(1), Check.row(1, 2));
        Check.describe(seer, "hhhh");
        Check.describe(seer, "b2");
        Check.type(seer, "c1");
        seer.edit(0);
        Check.due("the buffer is empty", 0, seer::clear);
        Check.due("the new text", "c1", () -> Check.textOf(seer, 0));
        Check.due("the other one stays", "b2", () -> Check.textOf(seer, 1));
        Check.due("it reads as the new one", -1, () -> seer.read(0, 0));
        Check.dueThrow("there is no third one", IndexOutOfBoundsException.class, () -> seer.edit(2));
        Check.dueThrow("an empty buffer is none", IllegalArgumentException.class, () -> seer.edit(0));
        Sentence.of(27, "Returns how many signs it had.");
        Check.type(seer, SIXTY);
        Check.due("two", 2, () -> seer.edit(1));
        Check.type(seer, "h");
        Check.due("sixty", 60, () -> seer.edit(1));
        Check.type(seer, "h");
        Check.due("one", 1, () -> seer.edit(1));
        Sentence.of(40, "one that was found is so at first, one that was edited is so again.");
        seer.answer(1, true);
        Check.due("not possible", false, () -> seer.isPossible(1));
        Check.type(seer, "h");
        seer.edit(1);
        Check.due("again", true, () -> seer.isPossible(1));
        Check.due("the other one is not", false, () -> seer.isPossible(0));
        Check.due("found behind answers", 2, () -> seer.find(0));
        Check.due("at first", true, () -> seer.isPossible(2));
    }

    private static void signNumbers() {
        Sentence.of(29, "- `index`: the index, from 0");
        Formatseer seer = new Formatseer();
        Check.describe(seer, "nv0");
        Check.describe(seer, "z");
        Check.due("the first", 'n', () -> seer.signAt(0, 0));
        Check.due("the last", '0', () -> seer.signAt(0, 2));
        Check.due("the only one", 'z', () -> seer.signAt(1, 0));
        Check.dueThrow("behind it", NoSuchElementException.class, () -> seer.signAt(1, 1));
        for (int index : new int[] {-1, 3, 60, Integer.MAX_VALUE, Integer.MIN_VALUE}) {
            Check.dueThrow("index " + index, NoSuchElementException.class, () -> seer.signAt(0, index));
        }
        Check.type(seer, "h");
        seer.edit(0);
        Check.dueThrow("signs that it had", NoSuchElementException.class, () -> seer.signAt(0, 1));
    }
}
