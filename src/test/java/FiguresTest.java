/** Promises 47 to 50: figures. */
public final class FiguresTest {
    public static void main(String[] args) {
        checksums();
        shares();
        means();
        soundness();
        Check.end();
    }

    private static void checksums() {
        Formatseer seer = new Formatseer();
        Check.due("47: at first", 0L, seer::checksum);
        Check.sample(seer, 3, 4);
        Check.due("47: one sample", 97L, seer::checksum);
        seer.sample();
        Check.due("47: an empty one", 97L, seer::checksum);
        Check.sample(seer, 255);
        Check.due("47: two", 3262L, seer::checksum);
        seer.setAside(0, true);
        Check.due("47: those aside too", 3262L, seer::checksum);
        seer.append(1, 1);
        Check.due("47: by samples, not by calls", (97L * 31 + 1) * 31 + 255, seer::checksum);
        long due = (97L * 31 + 1) * 31 + 255;
        for (int count = 0; count < 39; count++) {
            seer.append(2, 200);
            due = 31 * due + 200;
        }
        Check.due("47: over the greatest number", due, seer::checksum);
    }

    private static void shares() {
        Formatseer seer = new Formatseer();
        Check.dueThrow("48: no description", IndexOutOfBoundsException.class, () -> seer.readShare(0));
        Check.describe(seer, "h");
        Check.dueThrow("48: no samples", ArithmeticException.class, () -> seer.readShare(0));
        Check.dueThrow("48: neither", IndexOutOfBoundsException.class, () -> seer.readShare(1));
        Check.sample(seer, 1);
        Check.due("48: all", 1.0f, () -> seer.readShare(0));
        Check.sample(seer, 1, 2);
        Check.sample(seer, 1, 3);
        Check.due("48: a third", 1.0f / 3.0f, () -> seer.readShare(0));
        seer.setAside(0, true);
        seer.setAside(1, true);
        Check.due("48: those aside too", 1.0f / 3.0f, () -> seer.readShare(0));
        seer.append(0, 1);
        Check.due("48: none", 0.0f, () -> seer.readShare(0));
    }

    private static void means() {
        Formatseer seer = new Formatseer();
        Check.dueThrow("49: none", ArithmeticException.class, seer::meanLength);
        seer.sample();
        Check.due("49: an empty one", 0.0, seer::meanLength);
        Check.sample(seer, 1, 2);
        Check.sample(seer, 1, 2, 3);
        Check.due("49: a third", 5.0 / 3.0, seer::meanLength);
        seer.setAside(2, true);
        Check.due("49: those aside too", 5.0 / 3.0, seer::meanLength);
    }

    private static void soundness() {
        Formatseer seer = new Formatseer();
        Check.due("50: at first", true, seer::isSound);
        Check.sample(seer, 7, 1, 5);
        Check.sample(seer, 7, 2, 5, 6);
        Check.sample(seer, 9, 9, 9, 9, 9, 9, 9);
        seer.find(0);
        seer.find(1);
        seer.find(2);
        Check.describe(seer, "nr0(b1)z");
        Check.due("50: found", true, seer::isSound);
        seer.append(0, 9);
        Check.due("50: a found one need not read what has changed", true, seer::isSound);
        seer.setAside(1, true);
        seer.setLimit(1);
        Check.due("50: set aside", true, seer::isSound);
        Check.type(seer, "c1");
        seer.edit(1);
        Check.due("50: an edited one is not found any more", true, seer::isSound);
    }
}
