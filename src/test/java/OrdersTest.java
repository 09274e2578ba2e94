import java.util.NoSuchElementException;

/** Runs in which samples and descriptions change between the calls that ask for them. */
public final class OrdersTest {
    private static final int MOST_CALLS = 512;

    public static void main(String[] args) {
        asideBetweenFindings();
        asideBetweenClaims();
        asideBetweenAnswers();
        asideBetweenMessages();
        bytesBehindFinding();
        bytesBehindClaims();
        bytesBehindSending();
        bytesBehindAnswers();
        editsOfFoundOnes();
        editsOfThoseNotPossible();
        mutantsBetween();
        limitsBetween();
        theLastCall();
        Check.end();
    }

    /** Three samples of a length and as many bytes, of one class. */
    private static Formatseer lengths() {
        return Check.seerOf(1, Check.row(1, 5), Check.row(2, 5, 6), Check.row(3, 5, 6, 7));
    }

    private static void asideBetweenFindings() {
        Formatseer seer = lengths();
        seer.setAside(2, true);
        Check.due("28: of two", 0, () -> seer.find(0));
        Check.due("34: of two", 30 + 8 * 5, () -> seer.cost(0));
        seer.setAside(2, false);
        Check.due("34: of three, which it reads too", 30 + 8 * 9, () -> seer.cost(0));
        seer.setAside(0, true);
        Check.due("34: of the other two", 30 + 8 * 7, () -> seer.cost(0));
        Check.due("30: one that is set aside", -1, () -> seer.read(0, 0));
        Check.dueThrow("28: set aside", UnsupportedOperationException.class, () -> seer.find(0));
        seer.setAside(1, true);
        Check.due("28: the one that is left", 1, () -> seer.find(2));
        Check.due("29: its bytes alone", "c3c5c6c7", () -> Check.textOf(seer, 1));
        Check.due("34: it is no other ones'", 80, () -> seer.cost(1));
        Check.due("35: the first one costs less", 0, seer::best);
        seer.setAside(0, false);
        seer.setAside(1, false);
        Check.due("34: it does not read these", 80 + 2000, () -> seer.cost(1));
        Check.due("50: they were not those of which it was made", true, seer::isSound);
    }

    private static void asideBetweenClaims() {
        Formatseer seer = lengths();
        seer.setAside(0, true);
        Check.due("18: of two", 0, () -> seer.claim(1, 0));
        Check.due("20: of two", 2, () -> seer.rests(0));
        seer.setAside(0, false);
        Check.due("20: of three", 3, () -> seer.rests(0));
        seer.setAside(1, true);
        Check.due("19: the one for which it was made is aside", false, () -> seer.stands(0));
        Check.due("18: the same relation for another one", 1, () -> seer.claim(2, 0));
        Check.due("19: which is not aside", true, () -> seer.stands(1));
        seer.setAside(0, true);
        Check.due("19: it is alone", false, () -> seer.stands(1));
        seer.setAside(1, false);
        Check.due("20: the first claim, of two", 2, () -> seer.rests(0));
        Check.due("20: the second claim, of two", 2, () -> seer.rests(1));
    }

    private static void asideBetweenAnswers() {
        Formatseer seer = lengths();
        Check.describe(seer, "nv0");
        Check.describe(seer, "b2");
        Check.describe(seer, "b3");
        Check.due("41: one and two, by the first one", 0, seer::question);
        seer.setAside(0, true);
        Check.due("41: the next one", 1, seer::question);
        Check.due("39: one that is aside", 2, () -> seer.answer(0, true));
        Check.due("40: b3 does not read it", false, () -> seer.isPossible(2));
        Check.due("41: nv0 and b2", 1, seer::question);
        seer.setAside(1, true);
        Check.due("41: nv0 and b2, by the last one", 2, seer::question);
        seer.setAside(0, false);
        seer.setAside(2, true);
        Check.dueThrow("41: both read the first one", NoSuchElementException.class, seer::question);
        Check.due("39: behind it", 1, () -> seer.answer(2, true));
        Check.due("40: what was told stays", false, () -> seer.isPossible(2));
    }

    private static void asideBetweenMessages() {
        Formatseer seer = Check.seerOf(600, Check.row(1, 7), Check.row(7, 1), Check.row(2, 8));
        seer.send(0, 0, 0);
        seer.send(0, 1, 1);
        seer.setAside(0, true);
        Check.due("42: one that is aside", 3, () -> seer.send(0, 0, 0));
        seer.setAside(1, true);
        seer.send(0, 1, 1);
        Check.due("43: messages are not set aside", true, () -> seer.isEcho(1, 0));
        Check.due("45: nor are states", 3, () -> seer.states(1));
        Check.due("46: nor what follows", true, () -> seer.canFollow(0, 1, 0, 1));
        seer.setAside(0, false);
        seer.send(1, 0, 0);
        seer.send(1, 0, 2);
        Check.due("44: once up, once as before", false, () -> seer.isCounter(0));
        seer.send(2, 0, 0);
        Check.due("46: behind 0:1 of each session", true, () -> seer.canFollow(2, 1, 0, 2));
    }

    private static void bytesBehindFinding() {
        Formatseer seer = lengths();
        seer.find(0);
        seer.append(1, 9);
        Check.due("30: a byte more than it tells", 3, () -> seer.read(0, 1));
        Check.due("34: 1000 for it", 30 + 8 * 6 + 1000, () -> seer.cost(0));
        Check.due("50: it is not as it was", true, seer::isSound);
        Check.dueThrow("28: nothing holds of all three", NoSuchElementException.class, () -> seer.find(0));
        seer.setAside(1, true);
        Check.due("28: of those that are as they were", 1, () -> seer.find(0));
        Check.due("29: the same text", "nv0", () -> Check.textOf(seer, 1));
        Check.due("36: no item", 0, () -> seer.differ(0, 1));
        seer.append(0, 6);
        seer.append(2, 21);
        Check.due("28: of lengths that are one more", 2, () -> seer.find(2));
        Check.due("29: with a sum behind it", "nv0s", () -> Check.textOf(seer, 2));
        Check.due("36: one item to add", 1, () -> seer.differ(0, 2));
        Check.due("50: all is sound", true, seer::isSound);
    }

    private static void bytesBehindClaims() {
        Formatseer seer = lengths();
        seer.claim(0, 0);
        seer.append(0, 9);
        Check.due("19: the length is another", false, () -> seer.stands(0));
        seer.append(1, 9);
        seer.append(2, 9);
        Check.due("17: a rest of 2", 2, () -> seer.detail(0, 0, 'r'));
        Check.due("19: which is another relation", false, () -> seer.stands(0));
        Check.due("18: it is claimed anew", 1, () -> seer.claim(0, 0));
        Check.due("20: by three", 3, () -> seer.rests(1));
        Check.sample(seer, 4, 9, 9, 9, 9, 9);
        Check.due("20: by four", 4, () -> seer.rests(1));
        seer.append(3, 9);
        Check.due("20: by none", 0, () -> seer.rests(1));
        seer.setAside(3, true);
        Check.due("20: by three again", 3, () -> seer.rests(1));
    }

    private static void bytesBehindSending() {
        Formatseer seer = Check.seerOf(600, Check.row(), Check.row(), Check.row(1));
        for (int turn = 0; turn < 2; turn++) {
            seer.send(turn, 0, 0);
            seer.send(turn, 1, 1);
        }
        seer.send(2, 0, 2);
        Check.due("43: no bytes", false, () -> seer.isEcho(0, 0));
        Check.due("45: none, both without bytes, 0:1", 4, () -> seer.states(1));
        seer.append(0, 1);
        Check.due("43: no byte behind it", false, () -> seer.isEcho(0, 0));
        Check.due("45: two are one now", 3, () -> seer.states(1));
        Check.due("46: none behind 0:1", true, () -> seer.canFollow(2, 1, 1, -1));
        seer.append(1, 1);
        Check.due("43: the same byte", true, () -> seer.isEcho(0, 0));
        Check.due("46: 1:1 behind 0:1", true, () -> seer.canFollow(2, 1, 1, 1));
        Check.due("46: not none any more", false, () -> seer.canFollow(2, 1, 1, -1));
        seer.append(1, 5);
        seer.append(0, 6);
        Check.due("43: another place", false, () -> seer.isEcho(1, 1));
        Check.due("43: the first place as before", true, () -> seer.isEcho(0, 0));
        Check.due("42: the messages stay", 3, () -> seer.send(1, 0, 0));
        Check.due("44: as before at each place", false, () -> seer.isCounter(0));
    }

    private static void bytesBehindAnswers() {
        Formatseer seer = lengths();
        seer.find(0);
        Check.describe(seer, "b2");
        Check.describe(seer, "b3");
        Check.due("39: nv0 and b2 read it", 2, () -> seer.answer(0, true));
        seer.append(0, 9);
        Check.due("40: b3 is not possible by what was told before", false, () -> seer.isPossible(2));
        Check.due("40: nv0 is, though it does not read it now", true, () -> seer.isPossible(0));
        Check.due("41: nv0 reads the next one, b2 does not", 1, seer::question);
        Check.due("39: none that is possible reads it now", 0, () -> seer.answer(0, true));
        Check.due("26: as what was told is of those that were there", 3, () -> Check.describe(seer, "b4"));
        Check.due("40: it is possible", true, () -> seer.isPossible(3));
        Check.due("39: it does not read it either", 1, () -> seer.answer(0, false));
    }

    private static void editsOfFoundOnes() {
        Formatseer seer = lengths();
        seer.find(0);
        Check.type(seer, "c9");
        Check.due("27: the signs of nv0", 3, () -> seer.edit(0));
        Check.due("50: it is not the one that was found", true, seer::isSound);
        Check.due("34: none reads it", 20 + 3000, () -> seer.cost(0));
        Check.due("28: found again beside it", 1, () -> seer.find(0));
        Check.due("35: which is better", 1, seer::best);
        Check.type(seer, "nv0");
        Check.due("27: the signs of c9", 2, () -> seer.edit(0));
        Check.due("36: as the one that was found", 0, () -> seer.differ(0, 1));
        Check.due("35: of several the lowest number", 0, seer::best);
        Check.type(seer, "nv1");
        Check.dueThrow("27: no register 1", IllegalArgumentException.class, () -> seer.edit(1));
        Check.due("29: still the found one", "nv0", () -> Check.textOf(seer, 1));
        Check.type(seer, "nr0(h)");
        seer.edit(1);
        Check.due("38: twice or more, and once", 2, () -> seer.cover(1));
        seer.setAside(0, true);
        Check.due("38: twice or more", 1, () -> seer.cover(1));
        Check.due("50: all is sound", true, seer::isSound);
    }

    private static void editsOfThoseNotPossible() {
        Formatseer seer = lengths();
        seer.find(0);
        Check.describe(seer, "hh");
        Check.due("39: b2 alone does not read it", 1, () -> seer.answer(1, true));
        Check.type(seer, "hh");
        seer.edit(1);
        Check.due("40: possible again, though it reads as before", true, () -> seer.isPossible(1));
        Check.due("41: they are parted again", 1, seer::question);
        Check.due("39: and it is out again", 1, () -> seer.answer(1, true));
        Check.due("39: none is left", 0, () -> seer.answer(1, false));
        Check.type(seer, "z");
        seer.edit(0);
        Check.due("40: the one that was found, edited", true, () -> seer.isPossible(0));
        Check.due("40: the other one", false, () -> seer.isPossible(1));
        Check.dueThrow("41: one alone", NoSuchElementException.class, seer::question);
        Check.due("39: z does not read it", 1, () -> seer.answer(0, false));
        Check.due("28: a found one is possible at first", 2, () -> seer.find(0));
        Check.due("39: of those two", 1, () -> seer.answer(2, true));
    }

    private static void mutantsBetween() {
        Formatseer seer = Check.seerOf(1, Check.row(1, 5, 6), Check.row(2, 5, 6, 13));
        seer.find(0);
        Check.due("29: a length and a sum", "nv0s", () -> Check.textOf(seer, 0));
        seer.claim(0, 0);
        Check.due("37: a byte of v", 2, () -> seer.mutant(0, 1, 2, 200));
        Check.due("37: the sum is mended", "2 5 200 207", () -> Check.bytesOf(seer, 2));
        Check.due("20: one more", 3, () -> seer.rests(0));
        seer.setAside(1, true);
        Check.due("37: of one that is aside", 3, () -> seer.mutant(0, 1, 1, 255));
        Check.due("37: modulo 256", "2 255 6 7", () -> Check.bytesOf(seer, 3));
        Check.due("8: the mutant is not aside", 0, () -> seer.classOf(3));
        seer.append(2, 1);
        Check.dueThrow("37: it is not read any more", UnsupportedOperationException.class,
                () -> seer.mutant(0, 2, 1, 1));
        Check.due("20: the claim does not hold of it", 0, () -> seer.rests(0));
        seer.setAside(2, true);
        Check.due("20: it is aside", 2, () -> seer.rests(0));
        seer.setAside(1, false);
        Check.due("20: and the other one back", 3, () -> seer.rests(0));
        Check.type(seer, "nr0(h)h");
        seer.edit(0);
        Check.due("37: a byte that was a sum is one of h now", 4, () -> seer.mutant(0, 1, 3, 0));
        Check.due("37: no sum is mended", "2 5 6 0", () -> Check.bytesOf(seer, 4));
        Check.due("50: all is sound", true, seer::isSound);
    }

    private static void limitsBetween() {
        Formatseer seer = lengths();
        seer.find(0);
        seer.claim(0, 0);
        Check.due("6: the limit before", 1, () -> seer.setLimit(1000));
        Check.due("9: each is alone", true, () -> seer.isOutlier(0));
        Check.due("19: no class of two", false, () -> seer.stands(0));
        Check.due("28: its own bytes", "c1c5", () -> Check.textOf(seer, seer.find(0)));
        Check.due("34: all samples count, of whichever class", 40 + 2000, () -> seer.cost(1));
        seer.setLimit(334);
        Check.due("7: two of three", 334, () -> seer.likeness(0, 1));
        Check.due("7: three of four", 250, () -> seer.likeness(0, 2));
        Check.due("8: over the second one", 0, () -> seer.classOf(2));
        Check.due("20: a class of three again", 3, () -> seer.rests(0));
        seer.setAside(1, true);
        Check.due("8: nothing is between them", 2, () -> seer.classOf(2));
        Check.due("20: a class of one", 0, () -> seer.rests(0));
        Check.due("12: of its own bytes", 4, () -> seer.columns(2));
        seer.append(0, 6);
        Check.due("7: it is nearer now", 500, () -> seer.likeness(0, 2));
        Check.due("8: one class without the second one", 0, () -> seer.classOf(2));
        Check.due("19: of a byte too many", false, () -> seer.stands(0));
    }

    private static void theLastCall() {
        Formatseer seer = new Formatseer();
        int calls = 0;
        for (int sample = 0; sample < 10; sample++) {
            seer.sample();
            for (int place = 0; place < 40; place++) {
                seer.append(sample, place);
            }
            calls += 41;
        }
        Check.describe(seer, "h");
        calls += 3;
        while (calls < MOST_CALLS - 1) {
            seer.setAside(calls % 10, calls % 3 == 0);
            calls++;
        }
        Check.due("50: call 512", true, seer::isSound);
    }
}
