import java.util.NoSuchElementException;

/** The cases at the edges of questions, talks and figures, by the sentences that name them. */
final class EdgesOfTalks {
    private EdgesOfTalks() {
    }

    static void all() {
        answers();
        questions();
        sessions();
        symbols();
        pairs();
        placesOfEchoes();
        counters();
        placesOfCounters();
        rowsOfMessages();
        depths();
        followers();
        checksums();
        shares();
        means();
        soundness();
    }

    private static void answers() {
        Sentence.of(39, "Returns how many descriptions are possible then.");
        Formatseer seer = Check.seerOf(600, Check.row(1), Check.row(1, 2), Check.row());
        Check.due("there are none", 0, () -> seer.answer(0, true));
        for (String text : new String[] {"h", "c1", "b1", "hh", "z", "n"}) {
            Check.describe(seer, text);
        }
        Check.due("four of six", 4, () -> seer.answer(0, true));
        Check.due("once more", 4, () -> seer.answer(0, true));
        Check.due("of an empty sample that none reads", 4, () -> seer.answer(2, false));
        Sentence.of(39, "descriptions that read otherwise are not possible any more.");
        Check.due("h reads it", true, () -> seer.isPossible(0));
        Check.due("hh does not", false, () -> seer.isPossible(3));
        Check.due("not even if it reads the next one", 0, () -> seer.answer(1, true));
        Check.due("hh is not possible any more", false, () -> seer.isPossible(3));
        Formatseer refused = Check.seerOf(600, Check.row(1));
        Check.describe(refused, "h");
        Check.describe(refused, "hh");
        Check.due("it is not accepted", 1, () -> refused.answer(0, false));
        Check.due("h reads it", false, () -> refused.isPossible(0));
        Check.due("hh does not", true, () -> refused.isPossible(1));
    }

    /** The question for samples of 0, 1, 2.. bytes, by descriptions of so many bytes. */
    private static int question(int samples, String... texts) {
        Formatseer seer = new Formatseer();
        for (int size = 0; size < samples; size++) {
            Check.sample(seer, Check.filled(size, 1));
        }
        for (String text : texts) {
            Check.describe(seer, text);
        }
        return seer.question();
    }

    private static void questions() {
        Sentence.of(41, "some read it and some do not, and both are as many as can be, of several the lowest number.");
        Check.due("one and one", 1, () -> question(2, "h", "hh"));
        Check.due("two samples, one and one", 1, () -> question(3, "h", "hh"));
        Check.due("one of three, two of four", 2, () -> question(4, "h", "hh", "b2", "hhh"));
        Check.due("one of six, three of six", 3, () -> question(4, "h", "hh", "hhh", "b3", "hb2", "b4"));
        Check.due("two of six, three times", 1, () -> question(4, "h", "b1", "hh", "b2", "hhh", "b3"));
        Check.due("one of five, four of five", 1, () -> question(3, "h", "b2", "hh", "c1c1", "nh"));
        Check.due("two of five, three of five", 1, () -> question(3, "h", "b1", "hh", "c1c1", "nh"));
        Sentence.of(41, "Throws `NoSuchElementException` if no sample parts them");
        Check.dueThrow("no samples", NoSuchElementException.class, () -> question(0, "h", "hh"));
        Check.dueThrow("no descriptions", NoSuchElementException.class, () -> question(3));
        Check.dueThrow("one description", NoSuchElementException.class, () -> question(3, "h"));
        Check.dueThrow("all read it, or none", NoSuchElementException.class, () -> question(3, "h", "b1", "c1"));
        Formatseer seer = Check.seerOf(600, Check.row(), Check.row(1));
        Check.describe(seer, "h");
        Check.describe(seer, "hh");
        Check.due("before", 1, seer::question);
        seer.answer(1, true);
        Check.dueThrow("one that is possible is left", NoSuchElementException.class, seer::question);
        Check.describe(seer, "hhh");
        Check.due("behind", 1, seer::question);
        seer.setAside(1, true);
        Check.dueThrow("the sample that does is set aside", NoSuchElementException.class, seer::question);
    }

    private static void sessions() {
        Sentence.of("There are the sessions 0 to 3, each a row of at most 12 messages: a sample that is sent by the"
                + " side 0"
                + " or 1.");
        Formatseer seer = Check.seerOf(600, Check.row(1));
        for (int session = 0; session < 4; session++) {
            int one = session;
            for (int count = 1; count <= 12; count++) {
                int side = count % 2;
                Check.due("a message", count, () -> seer.send(one, side, 0));
            }
            Check.dueThrow("message 13", IllegalStateException.class, () -> seer.send(one, 0, 0));
        }
        for (int session : new int[] {-1, 4, Integer.MAX_VALUE, Integer.MIN_VALUE}) {
            Check.dueThrow("session " + session, IndexOutOfBoundsException.class, () -> seer.send(session, 0, 0));
        }
        Formatseer sides = Check.seerOf(600, Check.row(1));
        for (int side : new int[] {-1, 2, Integer.MAX_VALUE, Integer.MIN_VALUE}) {
            Check.dueThrow("side " + side, IllegalArgumentException.class, () -> sides.send(0, side, 0));
        }
        Check.due("none of them came", 1, () -> sides.send(0, 1, 0));
        Sentence.of(42, "Returns how many messages it has.");
        Check.due("two", 2, () -> sides.send(0, 1, 0));
        Check.due("one of another session", 1, () -> sides.send(3, 1, 0));
    }

    private static void symbols() {
        Sentence.of("The symbol of a message is its side and its first byte, or none if it is empty.");
        Formatseer seer = Check.seerOf(600, Check.row(0, 5), Check.row(255), Check.row(), Check.row(0, 6));
        seer.send(0, 0, 0);
        Check.due("0 of side 0", true, () -> seer.canFollow(1, 1, 0, 0));
        Check.due("not of side 1", false, () -> seer.canFollow(1, 1, 1, 0));
        Check.due("not none", false, () -> seer.canFollow(1, 1, 0, -1));
        seer.send(1, 1, 2);
        Check.due("none of side 1", true, () -> seer.canFollow(2, 1, 1, -1));
        Check.due("not of side 0", false, () -> seer.canFollow(2, 1, 0, -1));
        Check.due("not 0", false, () -> seer.canFollow(2, 1, 1, 0));
        Check.due("not 255 of side 0", false, () -> seer.canFollow(2, 1, 0, 255));
        seer.send(2, 0, 1);
        Check.due("255 of side 0", true, () -> seer.canFollow(3, 1, 0, 255));
        Check.due("states: none, 0 and none and 255", 4, () -> seer.states(1));
        seer.send(0, 0, 3);
        Check.due("other bytes do not count", 4, () -> seer.states(1));
        seer.append(2, 7);
        Check.due("a message is its sample, which is not empty any more", true, () -> seer.canFollow(3, 1, 1, 7));
        Check.due("and so not none", false, () -> seer.canFollow(3, 1, 1, -1));
    }

    /** Sends two samples by turns: the letters a and b for those by the side 0, A and B for those by the side 1. */
    private static Formatseer talk(Formatseer seer, String... rows) {
        for (int session = 0; session < rows.length; session++) {
            for (char one : rows[session].toCharArray()) {
                boolean isSecond = one < 'a';
                seer.send(session, isSecond ? 1 : 0, isSecond ? one - 'A' : one - 'a');
            }
        }
        return seer;
    }

    private static boolean echo(int place, int echo, String... rows) {
        return talk(Check.seerOf(600, Check.row(5, 6), Check.row(7, 5), Check.row(5), Check.row()), rows)
                .isEcho(place, echo);
    }

    private static void pairs() {
        Sentence.of("A pair is a message of the side 1 directly behind one of the side 0.");
        Check.due("two pairs", true, () -> echo(0, 1, "aBaB"));
        Check.due("what follows a pair is of no interest", true, () -> echo(0, 1, "aBBaBB"));
        Check.due("twelve messages, and those of the next session", true, () -> echo(0, 1, "aBaBbbbbbbbb", "A"));
        Check.due("of two sessions", true, () -> echo(0, 1, "aB", "aB"));
        Check.due("of the first and of the last one", true, () -> echo(0, 1, "aB", "", "", "aB"));
        Check.due("one behind another one of the side 1 is none", false, () -> echo(0, 1, "aBB"));
        Check.due("one ahead of another one of the side 0 is none", true, () -> echo(0, 1, "daBaB"));
        Check.due("side 1 ahead of side 0 is none", false, () -> echo(1, 0, "BaBa"));
        Check.due("not over sessions", false, () -> echo(0, 1, "aBa", "B"));
        Sentence.of(43, "in all pairs, 2 or more, of all sessions, the byte at one place of the first message is"
                + " that at"
                + " another place of the second one.");
        Check.due("no pairs", false, () -> echo(0, 1));
        Check.due("one pair", false, () -> echo(0, 1, "aB"));
        Check.due("two", true, () -> echo(0, 1, "aBaB"));
        Check.due("all but the last one of three", false, () -> echo(0, 1, "aBaBbB"));
        Check.due("all but the first one of three", false, () -> echo(0, 1, "bBaBaB"));
        Check.due("all but one of another session", false, () -> echo(0, 1, "aBaB", "bB"));
        Check.due("the same place", true, () -> echo(0, 0, "aAaC"));
        Sentence.of(43, "not if one of them is too short.");
        Check.due("the first one, by one byte", false, () -> echo(1, 0, "cBaB"));
        Check.due("the second one, by one byte", false, () -> echo(0, 1, "aBaC"));
        Check.due("the first one is empty", false, () -> echo(0, 1, "aBaBdB"));
        Check.due("the second one is empty", false, () -> echo(0, 1, "aBaBaD"));
        Check.due("both are", false, () -> echo(2, 2, "aBaB"));
        Formatseer zeros = talk(Check.seerOf(600, Check.row(0), Check.row(0, 0)), "aBaB");
        Check.due("0 and no byte", false, () -> zeros.isEcho(0, 2));
        Check.due("no byte and 0", false, () -> zeros.isEcho(1, 1));
        Check.due("0 and 0", true, () -> zeros.isEcho(0, 1));
        Check.due("one that is in no pair is", true, () -> echo(0, 1, "aBaBd"));
    }

    private static void placesOfEchoes() {
        Sentence.of(43, "if a place is not from 0 to 39");
        int[] full = Check.filled(40, 1);
        full[39] = 9;
        int[] first = Check.filled(40, 2);
        first[0] = 9;
        Formatseer seer = talk(Check.seerOf(600, full, first), "aBaB");
        Check.due("39 and 0", true, () -> seer.isEcho(39, 0));
        Check.due("0 and 39", false, () -> seer.isEcho(0, 39));
        Check.due("39 and 39", false, () -> seer.isEcho(39, 39));
        for (int place : new int[] {-1, 40, Integer.MAX_VALUE, Integer.MIN_VALUE}) {
            Check.dueThrow("place " + place, IllegalArgumentException.class, () -> seer.isEcho(place, 0));
            Check.dueThrow("echo " + place, IllegalArgumentException.class, () -> seer.isEcho(39, place));
        }
    }

    private static boolean counts(String... rows) {
        return talk(Check.seerOf(600, Check.row(9, 254), Check.row(9, 255), Check.row(9, 0), Check.row(9, 1), Check.row(9),
                Check.row()), rows).isCounter(1);
    }

    private static void counters() {
        Sentence.of(44, "it becomes 1 more modulo 256, and that is so twice or more in all.");
        Check.due("never", false, () -> counts());
        Check.due("alone", false, () -> counts("a"));
        Check.due("once", false, () -> counts("ab"));
        Check.due("twice, from 255 to 0 too", true, () -> counts("abc"));
        Check.due("once in each of two sessions", true, () -> counts("ab", "cd"));
        Check.due("once in the first and in the last one", true, () -> counts("bc", "", "", "bc"));
        Check.due("not from one session to the next one", false, () -> counts("ab", "c"));
        Check.due("two sessions alone", false, () -> counts("a", "b"));
        Check.due("over messages of the side 1", true, () -> counts("aEbFcA"));
        Check.due("messages of the side 1 do not count", false, () -> counts("aBcC"));
        Check.due("as at first again", false, () -> counts("abca"));
        Check.due("2 more at the end", false, () -> counts("abd"));
        Check.due("as before at the end", false, () -> counts("abcc"));
        Check.due("1 less", false, () -> counts("cba"));
        Check.due("not in another session", false, () -> counts("abc", "aa"));
        Check.due("all four", true, () -> counts("abcd"));
        Sentence.of(44, "Returns whether it does; not if a message of the side 0 is too short.");
        Check.due("the last one, by one byte", false, () -> counts("abce"));
        Check.due("the first one", false, () -> counts("eabc"));
        Check.due("an empty one, alone in its session", false, () -> counts("abc", "f"));
        Check.due("one of the side 1", true, () -> counts("abcE", "F"));
    }

    private static void placesOfCounters() {
        Sentence.of(44, "Throws `IllegalArgumentException` if the place is not from 0 to 39");
        int[][] rows = new int[3][];
        for (int number = 0; number < 3; number++) {
            rows[number] = Check.filled(40, 1, number);
            rows[number][39] = 100 + number;
        }
        Formatseer seer = talk(Check.seerOf(600, rows), "abc");
        Check.due("0", true, () -> seer.isCounter(0));
        Check.due("39", true, () -> seer.isCounter(39));
        Check.due("38", false, () -> seer.isCounter(38));
        for (int place : new int[] {-1, 40, Integer.MAX_VALUE, Integer.MIN_VALUE}) {
            Check.dueThrow("place " + place, IllegalArgumentException.class, () -> seer.isCounter(place));
        }
    }

    private static int states(int depth, String... rows) {
        return talk(Check.seerOf(600, Check.row(1), Check.row(2), Check.row(3), Check.row()), rows).states(depth);
    }

    private static void rowsOfMessages() {
        Sentence.of("Each row of messages from the beginning of a session on is a state, none and all of them"
                + " included.");
        Check.due("none", 1, () -> states(1));
        Check.due("none, and all of one", 2, () -> states(1, "a"));
        Check.due("none of one session, none of the other ones", 2, () -> states(3, "", "", "a"));
        Check.due("none, one and all of two", 3, () -> states(2, "ab"));
        Check.due("not from another message on", 4, () -> states(3, "abc"));
        Check.due("twelve", 13, () -> states(3, "abcaabbccABC"));
        Sentence.of("For a depth from 1 to 3, two states are one if their last symbols, as many as the depth, or all of"
                + " them if there are fewer, are the same.");
        Check.due("depth 1: the last one", 2, () -> states(1, "aaaa"));
        Check.due("depth 2: fewer are another state", 3, () -> states(2, "aaaa"));
        Check.due("depth 3: fewer are another state", 4, () -> states(3, "aaaa"));
        Check.due("depth 1: a, b", 3, () -> states(1, "ab", "b"));
        Check.due("depth 2: a, ab, b", 4, () -> states(2, "ab", "b"));
        Check.due("depth 2: the third one from the end does not count", 5, () -> states(2, "cab", "ab"));
        Check.due("depth 3: it does", 6, () -> states(3, "cab", "ab"));
        Check.due("depth 3: the fourth one from the end does not", 8, () -> states(3, "acab", "bcab"));
        Check.due("sides are part of symbols", 3, () -> states(1, "aA"));
        Check.due("empty messages are symbols", 3, () -> states(2, "dd"));
        Check.due("of two sides", 3, () -> states(1, "dD"));
        Check.due("an empty message is not no message", 2, () -> states(3, "d"));
    }

    private static void depths() {
        Formatseer seer = talk(Check.seerOf(600, Check.row(1)), "a");
        Sentence.of(45, "- `depth`: the depth, 1 to 3");
        for (int depth = 1; depth <= 3; depth++) {
            int one = depth;
            Check.due("depth " + one, 2, () -> seer.states(one));
        }
        for (int depth : new int[] {-1, 0, 4, Integer.MAX_VALUE, Integer.MIN_VALUE}) {
            Check.dueThrow("depth " + depth, IllegalArgumentException.class, () -> seer.states(depth));
        }
        Sentence.of(46, "- `depth`: the depth, 1 to 3");
        for (int depth = 1; depth <= 3; depth++) {
            int one = depth;
            Check.due("depth " + one, true, () -> seer.canFollow(1, one, 0, 1));
        }
        for (int depth : new int[] {-1, 0, 4, Integer.MAX_VALUE, Integer.MIN_VALUE}) {
            Check.dueThrow("depth " + depth, IllegalArgumentException.class, () -> seer.canFollow(1, depth, 0, 1));
        }
        Sentence.of(46, "- `value`: the first byte, or -1 for none");
        for (int value : new int[] {-1, 0, 2, 255}) {
            Check.due("value " + value, false, () -> seer.canFollow(1, 1, 0, value));
        }
        for (int value : new int[] {-2, 256, Integer.MAX_VALUE, Integer.MIN_VALUE}) {
            Check.dueThrow("value " + value, IllegalArgumentException.class, () -> seer.canFollow(1, 1, 0, value));
        }
        Sentence.of(46, "- `side`: the side, 0 or 1");
        Check.due("side 1", false, () -> seer.canFollow(1, 1, 1, 1));
        for (int side : new int[] {-1, 2, Integer.MAX_VALUE, Integer.MIN_VALUE}) {
            Check.dueThrow("side " + side, IllegalArgumentException.class, () -> seer.canFollow(1, 1, side, 1));
        }
    }

    /** Whether the byte 3 by the side 0 can follow the session 0. */
    private static boolean follows(int depth, String... rows) {
        return talk(Check.seerOf(600, Check.row(1), Check.row(2), Check.row(3)), rows).canFollow(0, depth, 0, 3);
    }

    private static void followers() {
        Sentence.of("A symbol can follow a state if it does so in some session, behind a state that is one with it.");
        Check.due("no message at all", false, () -> follows(1));
        Check.due("nor the sample 0", false, () -> Check.seerOf(600, Check.row(3)).canFollow(0, 1, 0, 3));
        Check.due("nor no byte", false, () -> Check.seerOf(600, Check.row()).canFollow(0, 1, 0, -1));
        Check.due("at the beginning, as in another session", true, () -> follows(3, "", "c"));
        Check.due("not at the beginning of another session", false, () -> follows(1, "", "ac"));
        Check.due("not behind what is no beginning", false, () -> follows(1, "a", "c"));
        Check.due("behind its own state, earlier", true, () -> follows(1, "aca"));
        Check.due("not ahead of it", false, () -> follows(1, "ca"));
        Check.due("the last message of a session", true, () -> follows(1, "a", "", "", "bac"));
        Check.due("depth 2: two symbols", true, () -> follows(2, "ba", "bac"));
        Check.due("depth 2: one is another", false, () -> follows(2, "ba", "aac"));
        Check.due("depth 1: it is the same", true, () -> follows(1, "ba", "aac"));
        Check.due("depth 2: fewer symbols", false, () -> follows(2, "a", "aac"));
        Check.due("depth 3: all of them", true, () -> follows(3, "ba", "bac"));
        Check.due("depth 3: more of them", false, () -> follows(3, "ba", "abac"));
        Check.due("depth 3: the fourth one from the end does not count", true, () -> follows(3, "aaba", "baabac"));
        Check.due("another side behind it", false, () -> follows(1, "a", "aC"));
        Check.due("behind another side", false, () -> follows(1, "a", "Ac"));
    }

    private static void checksums() {
        Sentence.of(47, "Returns 0 at first, then for each byte of each sample 31 times itself plus the byte.");
        Formatseer seer = new Formatseer();
        Check.due("at first", 0L, seer::checksum);
        seer.sample();
        Check.due("an empty sample", 0L, seer::checksum);
        seer.append(0, 0);
        Check.due("the byte 0", 0L, seer::checksum);
        seer.append(0, 255);
        Check.due("the byte 255", 255L, seer::checksum);
        Check.sample(seer, 1);
        Check.due("of the next sample", 255L * 31 + 1, seer::checksum);
        seer.append(0, 2);
        Check.due("in the order of the samples", (255L * 31 + 2) * 31 + 1, seer::checksum);
        long due = (255L * 31 + 2) * 31 + 1;
        for (int count = 0; count < 39; count++) {
            seer.append(1, 255);
            due = 31 * due + 255;
        }
        Check.due("beyond all numbers", due, seer::checksum);
        seer.setAside(0, true);
        Check.due("those that are set aside too", due, seer::checksum);
    }

    private static void shares() {
        Sentence.of(48, "Returns their number divided by that of all, those aside too, both converted to float.");
        Formatseer seer = new Formatseer();
        Check.describe(seer, "h");
        Check.dueThrow("no samples", ArithmeticException.class, () -> seer.readShare(0));
        seer.sample();
        Check.due("none of one", 0.0f, () -> seer.readShare(0));
        seer.append(0, 1);
        Check.due("one of one", 1.0f, () -> seer.readShare(0));
        seer.setAside(0, true);
        Check.due("one of one, which is set aside", 1.0f, () -> seer.readShare(0));
        seer.sample();
        seer.sample();
        Check.due("one of three", 1.0f / 3, () -> seer.readShare(0));
        seer.append(1, 1);
        Check.due("two of three", 2.0f / 3, () -> seer.readShare(0));
    }

    private static void means() {
        Sentence.of(49, "Returns the sum divided by their number, both converted to double.");
        Formatseer seer = new Formatseer();
        Check.dueThrow("no samples", ArithmeticException.class, seer::meanLength);
        seer.sample();
        Check.due("no bytes", 0.0, seer::meanLength);
        seer.append(0, 1);
        Check.due("one", 1.0, seer::meanLength);
        seer.sample();
        Check.due("a half", 0.5, seer::meanLength);
        seer.sample();
        Check.due("a third", 1.0 / 3, seer::meanLength);
        seer.setAside(0, true);
        Check.due("those that are set aside too", 1.0 / 3, seer::meanLength);
    }

    private static void soundness() {
        Sentence.of(50, "fields of a sample that is read lie behind one another over all its bytes");
        Formatseer seer = new Formatseer();
        Check.due("nothing at all", true, seer::isSound);
        seer.sample();
        Check.due("an empty sample", true, seer::isSound);
        Check.sample(seer, 2, 0, 1, 7);
        Check.describe(seer, "nr0(nv1)");
        Check.describe(seer, "h");
        Check.due("fields without bytes", true, seer::isSound);
        Sentence.of(50, "each sample that is not aside comes back from its cells");
        Check.sample(seer, 9, 2, 0, 1, 7, 8);
        Check.sample(seer, 2, 1, 7);
        seer.setLimit(1);
        Check.due("gaps ahead, between and behind", true, seer::isSound);
        seer.setAside(2, true);
        Check.due("one is set aside", true, seer::isSound);
    }
}
