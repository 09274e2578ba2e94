/** Promises 42 to 46: talks. */
public final class TalksTest {
    public static void main(String[] args) {
        messages();
        echoes();
        counters();
        machines();
        followers();
        Check.end();
    }

    private static void messages() {
        Formatseer seer = new Formatseer();
        Check.dueThrow("42: no session", IndexOutOfBoundsException.class, () -> seer.send(4, 2, 0));
        Check.dueThrow("42: below", IndexOutOfBoundsException.class, () -> seer.send(-1, 0, 0));
        Check.dueThrow("42: no sample, no side", IndexOutOfBoundsException.class, () -> seer.send(0, 2, 0));
        Check.sample(seer, 1);
        Check.dueThrow("42: side 2", IllegalArgumentException.class, () -> seer.send(0, 2, 0));
        Check.dueThrow("42: side -1", IllegalArgumentException.class, () -> seer.send(0, -1, 0));
        for (int count = 1; count <= 12; count++) {
            int side = count % 2;
            Check.due("42: send", count, () -> seer.send(3, side, 0));
        }
        Check.dueThrow("42: it has 12", IllegalStateException.class, () -> seer.send(3, 0, 0));
        Check.dueThrow("42: it has 12, and no side", IllegalArgumentException.class, () -> seer.send(3, 3, 0));
        Check.due("42: another session", 1, () -> seer.send(2, 0, 0));
        Check.due("42: a throw changes nothing", 2, () -> seer.send(2, 1, 0));
        seer.setAside(0, true);
        Check.due("42: one that is set aside", 3, () -> seer.send(2, 1, 0));
    }

    private static void echoes() {
        Formatseer seer = new Formatseer();
        for (int place : new int[] {-1, 40}) {
            Check.dueThrow("43: place " + place, IllegalArgumentException.class, () -> seer.isEcho(place, 0));
            Check.dueThrow("43: echo " + place, IllegalArgumentException.class, () -> seer.isEcho(0, place));
        }
        Check.due("43: no pairs", false, () -> seer.isEcho(39, 39));
        Check.sample(seer, 1, 7);
        Check.sample(seer, 7, 2);
        Check.sample(seer, 3, 8);
        Check.sample(seer, 8, 5, 6);
        Check.sample(seer, 3);
        seer.send(0, 0, 0);
        seer.send(0, 1, 1);
        Check.due("43: one pair is not enough", false, () -> seer.isEcho(1, 0));
        seer.send(1, 1, 0);
        seer.send(1, 0, 4);
        seer.send(1, 0, 2);
        seer.send(1, 1, 3);
        seer.send(1, 1, 4);
        Check.due("43: two pairs of two sessions", true, () -> seer.isEcho(1, 0));
        Check.due("43: not the other way round", false, () -> seer.isEcho(0, 1));
        Check.due("43: one is too short", false, () -> seer.isEcho(1, 2));
        seer.send(2, 0, 4);
        Check.due("43: no pair yet", true, () -> seer.isEcho(1, 0));
        seer.send(2, 1, 3);
        Check.due("43: the first one is too short", false, () -> seer.isEcho(1, 0));
        Formatseer apart = new Formatseer();
        Check.sample(apart, 1);
        apart.send(0, 0, 0);
        apart.send(1, 1, 0);
        apart.send(1, 0, 0);
        apart.send(2, 1, 0);
        Check.due("43: pairs are within a session", false, () -> apart.isEcho(0, 0));
    }

    private static void counters() {
        Formatseer seer = new Formatseer();
        Check.dueThrow("44: place -1", IllegalArgumentException.class, () -> seer.isCounter(-1));
        Check.dueThrow("44: place 40", IllegalArgumentException.class, () -> seer.isCounter(40));
        Check.due("44: nothing", false, () -> seer.isCounter(39));
        Check.sample(seer, 5, 254);
        Check.sample(seer, 5, 255);
        Check.sample(seer, 5, 0);
        Check.sample(seer, 5, 9);
        Check.sample(seer, 5);
        seer.send(0, 0, 0);
        seer.send(0, 1, 3);
        seer.send(0, 0, 1);
        Check.due("44: once is not enough", false, () -> seer.isCounter(1));
        seer.send(1, 0, 1);
        seer.send(1, 0, 2);
        Check.due("44: twice in all, modulo 256", true, () -> seer.isCounter(1));
        Check.due("44: it stays", false, () -> seer.isCounter(0));
        Check.due("44: too short", false, () -> seer.isCounter(2));
        seer.send(2, 1, 4);
        seer.send(2, 0, 3);
        Check.due("44: alone in a session", true, () -> seer.isCounter(1));
        seer.send(3, 0, 4);
        Check.due("44: alone in a session and too short", false, () -> seer.isCounter(1));
        Formatseer jumps = new Formatseer();
        for (int value : new int[] {1, 2, 3, 5}) {
            Check.sample(jumps, value);
            jumps.send(0, 0, value == 5 ? 3 : value - 1);
        }
        Check.due("44: not once otherwise", false, () -> jumps.isCounter(0));
    }

    private static void machines() {
        Formatseer seer = new Formatseer();
        for (int depth : new int[] {0, 4, -1}) {
            Check.dueThrow("45: depth " + depth, IllegalArgumentException.class, () -> seer.states(depth));
        }
        Check.due("45: the empty row alone", 1, () -> seer.states(1));
        Check.sample(seer, 1, 2);
        Check.sample(seer, 1, 3);
        Check.sample(seer, 2);
        seer.sample();
        seer.send(0, 0, 0);
        seer.send(0, 0, 1);
        seer.send(0, 1, 1);
        seer.send(0, 0, 2);
        Check.due("45: none, 0:1 (twice), 1:1, 0:2", 4, () -> seer.states(1));
        Check.due("45: fewer symbols are another state", 5, () -> seer.states(2));
        Check.due("45: three symbols", 5, () -> seer.states(3));
        seer.send(1, 0, 1);
        seer.send(1, 1, 0);
        Check.due("45: the last one alone", 4, () -> seer.states(1));
        Check.due("45: the last two alone", 5, () -> seer.states(2));
        Check.due("45: all of them if there are fewer", 6, () -> seer.states(3));
        seer.send(1, 1, 3);
        seer.send(1, 0, 3);
        Check.due("45: messages without bytes, by sides", 6, () -> seer.states(1));
        seer.append(3, 2);
        Check.due("45: a message is its sample as it is now", 5, () -> seer.states(1));
    }

    private static void followers() {
        Formatseer seer = new Formatseer();
        Check.dueThrow("46: no session", IndexOutOfBoundsException.class, () -> seer.canFollow(4, 9, 9, 999));
        Check.dueThrow("46: below", IndexOutOfBoundsException.class, () -> seer.canFollow(-1, 1, 0, 0));
        Check.dueThrow("46: depth 0", IllegalArgumentException.class, () -> seer.canFollow(0, 0, 0, 0));
        Check.dueThrow("46: depth 4", IllegalArgumentException.class, () -> seer.canFollow(0, 4, 0, 0));
        Check.dueThrow("46: side 2", IllegalArgumentException.class, () -> seer.canFollow(0, 1, 2, 0));
        Check.dueThrow("46: side -1", IllegalArgumentException.class, () -> seer.canFollow(0, 1, -1, 0));
        Check.dueThrow("46: byte -2", IllegalArgumentException.class, () -> seer.canFollow(0, 1, 0, -2));
        Check.dueThrow("46: byte 256", IllegalArgumentException.class, () -> seer.canFollow(0, 1, 0, 256));
        Check.due("46: nothing follows", false, () -> seer.canFollow(0, 1, 0, -1));
        Check.sample(seer, 1);
        Check.sample(seer, 2);
        Check.sample(seer, 255);
        seer.sample();
        seer.send(0, 0, 0);
        seer.send(0, 1, 1);
        seer.send(0, 0, 2);
        seer.send(0, 1, 1);
        Check.due("46: behind 1:2 of the same session", true, () -> seer.canFollow(0, 1, 0, 255));
        Check.due("46: not behind two symbols", false, () -> seer.canFollow(0, 2, 0, 255));
        Check.due("46: the other side", false, () -> seer.canFollow(0, 1, 1, 255));
        Check.due("46: none of the other side is no 255", false, () -> seer.canFollow(0, 1, 1, -1));
        Check.due("46: at the beginning", true, () -> seer.canFollow(1, 3, 0, 1));
        Check.due("46: not at the beginning", false, () -> seer.canFollow(1, 3, 0, 255));
        seer.send(1, 0, 2);
        seer.send(1, 1, 1);
        seer.send(1, 1, 3);
        Check.due("46: none, behind 0:255 1:2", true, () -> seer.canFollow(0, 2, 1, -1));
        Check.due("46: at depth 3 the session ends otherwise", false, () -> seer.canFollow(0, 3, 1, -1));
        Check.due("46: at depth 1 too", true, () -> seer.canFollow(0, 1, 1, -1));
    }
}
