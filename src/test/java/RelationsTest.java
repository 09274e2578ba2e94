import java.util.NoSuchElementException;

/** Promises 15 to 23: relations, claims and packing. */
public final class RelationsTest {
    public static void main(String[] args) {
        lengths();
        sums();
        keys();
        counts();
        offsets();
        claims();
        wrongCalls();
        packing();
        Check.end();
    }

    private static int[] row(int... bytes) {
        return bytes;
    }

    private static String told(int[]... rows) {
        return Check.relationsOf(Check.seerOf(1, rows), 0);
    }

    private static void lengths() {
        Check.due("15: one sample has none", "", () -> told(row(3, 9, 9)));
        Check.due("16: one byte, rest 0", "l0,1,0 k0,0,0", () -> told(row(3, 9, 9), row(2, 9)));
        Check.due("16: not if lengths are alike", "", () -> told(row(2, 8, 9), row(2, 9, 9)));
        Check.due("17: two bytes, the greater one first", "l0,2,0 l1,1,0 k1,0,0",
                () -> told(row(0, 4, 9, 1), row(0, 3, 9)));
        Check.due("17: two bytes at the end of the shortest one", "l0,2,0 l1,1,0 k1,0,0",
                () -> told(row(0, 2), row(0, 3, 9)));
        Check.due("17: two bytes, the lesser one first", "l0,1,1 l0,3,1 k0,0,0",
                () -> told(row(4, 0, 9, 7, 8), row(3, 0, 9, 7)));
        Check.due("17: the rest is not below 0", "k0,0,0", () -> told(row(6, 9, 9, 8, 8), row(5, 9, 9, 8)));
        Check.due("17: the place is in all", "l0,1,1 k0,0,0", () -> told(row(2, 0, 9), row(0)));
    }

    private static void sums() {
        Check.due("16: a sum", "+0,0,0", () -> told(row(1, 20, 21), row(4, 20, 24)));
        Check.due("16: modulo 256", "+0,0,0", () -> told(row(200, 100, 44), row(201, 100, 45)));
        Check.due("16: exclusive or", "^0,0,0", () -> told(row(7, 3, 4), row(6, 3, 5)));
        Check.due("16: makes the sum 0", "-0,0,0", () -> told(row(7, 3, 246), row(9, 3, 244)));
        Check.due("16: makes the sum 0, an odd one", "-0,0,0", () -> told(row(7, 4, 245), row(9, 4, 243)));
        Check.due("16: each place is one, in their order", "+1,0,0 ^1,0,0",
                () -> told(row(1, 20, 20), row(4, 20, 20)));
        Check.due("16: at least one byte ahead", "", () -> told(row(0), row(0)));
        Check.due("16: not at the last byte of the shortest one", "+0,0,0 ^0,0,0 k1,0,0",
                () -> told(row(9, 9), row(9, 16, 25)));
    }

    private static void keys() {
        Check.due("16: the same byte, as long", "k0,0,0",
                () -> told(row(5, 7, 7), row(6, 7, 7, 7), row(5, 7, 7)));
        Check.due("16: the same byte, not as long", "",
                () -> told(row(5, 7, 7), row(5, 7, 7, 7), row(6, 7, 7)));
        Check.due("16: another byte, as long", "",
                () -> told(row(5, 7, 7), row(8, 7, 7), row(6, 7, 7, 7)));
    }

    private static void counts() {
        Check.due("17: a width and a rest", "k0,0,0 r0,3,1",
                () -> told(row(1, 99, 98, 97, 96), row(2, 99, 98, 97, 96, 95, 94, 93)));
        Check.due("17: width 8, rest 3", "k0,0,0 r0,8,3", () -> told(
                row(0, 99, 98, 97), row(1, 99, 98, 97, 96, 95, 94, 93, 92, 91, 90, 89)));
        Check.due("17: width 2, rest 0", "k0,0,0 r0,2,0", () -> told(row(1, 99, 98), row(2, 99, 98, 97, 96)));
        Check.due("17: behind another place", "k1,0,0 r1,2,1",
                () -> told(row(99, 1, 98, 97, 96), row(99, 2, 98, 97, 96, 95, 94)));
        Check.due("17: width 9 is none", "k0,0,0",
                () -> told(row(0, 99), row(1, 99, 98, 97, 96, 95, 94, 93, 92, 91, 90)));
        Check.due("17: rest 4 is none", "k0,0,0", () -> told(
                row(1, 99, 98, 97, 96, 95, 94), row(2, 99, 98, 97, 96, 95, 94, 93, 92)));
        Check.due("17: width 1 is a length", "l0,1,1 k0,0,0", () -> told(row(1, 99), row(2, 99, 98)));
    }

    private static void offsets() {
        Check.due("17: the byte that is found", "o0,77,0", () -> told(row(2, 5, 77, 9), row(3, 5, 66, 77)));
        Check.due("17: alike bytes are none", "", () -> told(row(2, 5, 77, 9), row(2, 5, 77, 8)));
        Check.due("17: it may be itself", "o0,0,0", () -> told(row(0, 5, 66), row(1, 0, 66)));
        Check.due("17: not behind the end", "", () -> told(row(2, 5, 77), row(3, 5, 66)));
    }

    private static void claims() {
        Formatseer seer = Check.seerOf(1, row(3, 9, 9), row(2, 9));
        Check.due("18: the first", 0, () -> seer.claim(1, 0));
        Check.due("18: the second", 1, () -> seer.claim(0, 1));
        Check.due("19: stands", true, () -> seer.stands(0));
        Check.due("20: rests", 2, () -> seer.rests(1));
        Check.sample(seer, 4, 9, 9, 9);
        Check.due("20: on the new one too", 3, () -> seer.rests(0));
        Check.sample(seer, 3, 9, 9, 9);
        Check.due("19: not any more", false, () -> seer.stands(0));
        Check.due("20: on none", 0, () -> seer.rests(0));
        seer.setAside(3, true);
        Check.due("19: again", true, () -> seer.stands(0));
        seer.setAside(1, true);
        Check.due("19: its sample is set aside", false, () -> seer.stands(0));
        Check.due("19: the other one's is not", true, () -> seer.stands(1));
        Check.due("20: on two", 2, () -> seer.rests(1));
        seer.setAside(2, true);
        Check.due("19: one sample is not enough", false, () -> seer.stands(1));
        Check.dueThrow("19: no claim", IndexOutOfBoundsException.class, () -> seer.stands(2));
        Check.dueThrow("19: below", IndexOutOfBoundsException.class, () -> seer.stands(-1));
        Check.dueThrow("20: no claim", IndexOutOfBoundsException.class, () -> seer.rests(2));
        Formatseer many = Check.seerOf(1, row(3, 9, 9), row(2, 9));
        for (int number = 0; number < 20; number++) {
            many.claim(0, number % 2);
        }
        Check.dueThrow("18: no relation, and 20", NoSuchElementException.class, () -> many.claim(0, 2));
        Check.dueThrow("18: 20 claims", IllegalStateException.class, () -> many.claim(0, 0));
        Check.due("18: a throw changes nothing", true, () -> many.stands(19));
        Check.dueThrow("18: 20 are there", IndexOutOfBoundsException.class, () -> many.stands(20));
    }

    private static void wrongCalls() {
        Formatseer seer = new Formatseer();
        Check.dueThrow("15: no sample", IndexOutOfBoundsException.class, () -> seer.relations(0));
        Check.dueThrow("16: no sample", IndexOutOfBoundsException.class, () -> seer.kindOf(0, 0));
        Check.dueThrow("17: no sample, no such number", IndexOutOfBoundsException.class, () -> seer.detail(0, 0, 'z'));
        Check.dueThrow("18: no sample", IndexOutOfBoundsException.class, () -> seer.claim(0, 0));
        Check.sample(seer, 3, 9, 9);
        Check.sample(seer, 2, 9);
        seer.setLimit(1);
        Check.due("15: two", 2, () -> seer.relations(0));
        Check.dueThrow("16: behind", NoSuchElementException.class, () -> seer.kindOf(0, 2));
        Check.dueThrow("16: ahead", NoSuchElementException.class, () -> seer.kindOf(0, -1));
        Check.dueThrow("17: no such number", IllegalArgumentException.class, () -> seer.detail(0, 9, 'P'));
        Check.dueThrow("17: no relation", NoSuchElementException.class, () -> seer.detail(0, 2, 'p'));
        Check.dueThrow("18: no relation", NoSuchElementException.class, () -> seer.claim(0, 2));
        seer.setAside(0, true);
        Check.dueThrow("15: set aside", UnsupportedOperationException.class, () -> seer.relations(0));
        Check.dueThrow("16: set aside", UnsupportedOperationException.class, () -> seer.kindOf(0, 9));
        Check.dueThrow("17: set aside, no such number", UnsupportedOperationException.class,
                () -> seer.detail(0, 9, 'z'));
        Check.dueThrow("18: set aside", UnsupportedOperationException.class, () -> seer.claim(0, 9));
    }

    private static void packing() {
        Formatseer seer = Check.seerOf(1, row(65, 66), row(), row(0, 31), row(0, 255), row(3, 1, 255, 2), row(3),
                row(0, 1), row(3, 1, 0, 2), row(5, 5, 5), row(127, 128));
        Check.due("21: 1 itself", 1, () -> seer.mask(0));
        Check.dueThrow("21: no bytes", NoSuchElementException.class, () -> seer.mask(1));
        Check.due("21: the least", 32, () -> seer.mask(2));
        Check.dueThrow("21: none", NoSuchElementException.class, () -> seer.mask(3));
        Check.dueThrow("21: 127 and 128", NoSuchElementException.class, () -> seer.mask(9));
        Check.dueThrow("21: no sample", IndexOutOfBoundsException.class, () -> seer.mask(10));
        int[] strict = new int[33];
        for (int index = 0; index < 31; index++) {
            strict[index] = 255 - 96 - index;
        }
        strict[31] = 255 - 32;
        strict[32] = 255 - 64;
        Check.due("21: the greatest", 255, () -> Check.seerOf(1, strict).mask(0));
        Check.due("22: counts", 258, () -> seer.unpacked(4));
        Check.due("22: no bytes", 0, () -> seer.unpacked(1));
        Check.dueThrow("22: no pair", NoSuchElementException.class, () -> seer.unpacked(5));
        Check.dueThrow("22: count 0", NoSuchElementException.class, () -> seer.unpacked(6));
        Check.dueThrow("22: a later count 0", NoSuchElementException.class, () -> seer.unpacked(7));
        Check.dueThrow("22: half a pair", NoSuchElementException.class, () -> seer.unpacked(8));
        Check.dueThrow("22: no sample", IndexOutOfBoundsException.class, () -> seer.unpacked(-1));
        Check.due("23: all different", 1000, () -> seer.variety(4));
        Check.due("23: rounded down", 333, () -> seer.variety(8));
        Check.due("23: no bytes", 0, () -> seer.variety(1));
        Check.dueThrow("23: no sample", IndexOutOfBoundsException.class, () -> seer.variety(10));
        seer.setAside(0, true);
        Check.due("21: of one that is set aside", 1, () -> seer.mask(0));
        Check.due("22: of one that is set aside", 65, () -> seer.unpacked(0));
        Check.due("23: of one that is set aside", 1000, () -> seer.variety(0));
    }
}
