/** Promises 42 and 43: version and difference. */
public final class VersionsTest {
    public static void main(String[] args) {
        made();
        sheets();
        texts();
        decks();
        partsInOneAlone();
        wrongDifferences();
        Check.end("VersionsTest");
    }

    private static void made() {
        Notebookspire x = new Notebookspire();
        for (int i = 0; i < 5; i++) {
            Check.due("42: the number", x.version(), i);
        }
        Check.state("42: a sixth", x, () -> x.version());
    }

    private static void differ(String what, Notebookspire x, int one, int other, int part, int want) {
        Check.due(what, x.difference(one, other, part), want);
        Check.due(what + ", the other way", x.difference(other, one, part), want);
    }

    private static void sheets() {
        Notebookspire x = new Notebookspire();
        x.make(0, Notebookspire.SHEET);
        x.make(0, Notebookspire.SHEET);
        x.set(0, 0, 1, false, 0);
        x.set(0, 0, 2, false, 5);
        x.formula(0, 0, 3, 0, 0, 0, 0, 1);
        x.formula(0, 0, 4, 3, 0, 0, 0, 1);
        x.formula(0, 0, 5, 4, 0, 0, 0, 1);
        x.version();
        x.set(0, 0, 2, false, 6);
        x.set(0, 0, 2, false, 5);
        x.formula(0, 0, 4, 3, 0, 0, 1, 1);
        x.formula(0, 0, 5, 4, 0, 0, 1, 2);
        x.set(0, 0, 6, true, 9);
        x.version();
        differ("43: what counts for nothing", x, 0, 1, 0, 0);
        x.formula(0, 0, 2, 0, 1, 7, 1, 8);
        x.set(0, 0, 2, false, 5);
        x.formula(0, 0, 7, 0, 1, 7, 1, 8);
        x.set(0, 0, 7, true, 0);
        x.version();
        differ("43: what a cell had ahead of a number", x, 1, 2, 0, 0);
        x.set(0, 0, 0, false, 0);
        x.formula(0, 0, 3, 1, 0, 0, 0, 1);
        x.formula(0, 0, 4, 3, 0, 0, 0, 2);
        x.formula(0, 0, 5, 4, 0, 3, 0, 0);
        x.set(0, 0, 2, false, 4);
        x.version();
        differ("43: a blank one and 0, and four more cells", x, 2, 3, 0, 5);
        differ("43: another SHEET", x, 0, 3, 1, 0);
        x.formula(0, 0, 3, 1, 1, 0, 0, 1);
        x.formula(0, 0, 4, 3, 0, 0, 0, 5);
        x.formula(0, 0, 5, 0, 0, 3, 0, 0);
        x.set(0, 0, 1, true, 0);
        x.version();
        differ("43: one for each cell", x, 3, 4, 0, 4);
        differ("43: with itself", x, 3, 3, 0, 0);
        Notebookspire y = new Notebookspire();
        y.make(0, Notebookspire.SHEET);
        y.set(0, 0, 3, false, 1);
        y.formula(0, 0, 0, 0, 0, 3, 0, 3);
        y.version();
        y.set(0, 0, 3, false, 2);
        y.version();
        differ("43: contents, not values", y, 0, 1, 0, 1);
        y.make(0, Notebookspire.SHEET);
        y.formula(0, 0, 0, 0, 0, 3, 1, 3);
        y.version();
        differ("43: the other SHEET of a formula", y, 1, 2, 0, 1);
        y.formula(0, 0, 0, 0, 0, 4, 1, 3);
        y.version();
        differ("43: the first cell of a formula", y, 2, 3, 0, 1);
        y.formula(0, 0, 0, 0, 0, 4, 1, 2);
        y.version();
        differ("43: the second cell of a formula", y, 3, 4, 0, 1);
        Notebookspire z = new Notebookspire();
        z.make(0, Notebookspire.SHEET);
        z.formula(0, 0, 0, 3, 0, 1, 0, 5);
        z.version();
        z.formula(0, 0, 0, 3, 0, 5, 0, 1);
        z.version();
        differ("43: a range by other corners", z, 0, 1, 0, 1);
    }

    private static void rows(String one, String other, int want) {
        Notebookspire x = new Notebookspire();
        x.make(0, Notebookspire.TEXT);
        x.make(0, Notebookspire.SHEET);
        x.show(0, 1, 0, 0);
        x.show(0, 1, 1, 1);
        Check.write(x, 0, 0, one);
        x.version();
        x.version();
        Check.clear(x, 0, 0);
        Check.write(x, 0, 0, other);
        if (x.view(0, 0) > 0) {
            x.out(0, 0, 0);
        }
        x.version();
        differ("43: " + one + " and " + other, x, 0, 2, 0, want);
        differ("43: the same row", x, 0, 1, 0, 0);
    }

    private static void texts() {
        rows("", "", 0);
        rows("", "a", 1);
        rows("", "B", 1);
        rows("", "HSR", 3);
        rows("ab", "ab", 0);
        rows("ab", "ac", 2);
        rows("ab", "abc", 2);
        rows("ab", "Bab", 0);
        rows("ab", "Hab", 2);
        rows("Hab", "Sab", 2);
        rows("HaSb", "SbHa", 0);
        rows("aHaHa", "aHa", 1);
        rows("HaHaHa", "HaSaHa", 2);
        rows("HaHa", "HaHb", 2);
        rows("HaHbHc", "HcHaHb", 0);
        rows("B", "", 1);
        rows("a0b", "a0b", 0);
        rows("a0b", "a1b", 2);
        rows("BB", "BBB", 1);
        rows("aBa", "BaBaB", 1);
        rows("RRSab", "RSabR", 0);
        rows("HabHa", "HaHab", 0);
        rows("HabcHab", "HabHac", 2);
        rows("abcdefghijklmnopqrstuvwxyzabcdefghijkHam", "abcdefghijklmnopqrstuvwxyzabcdefghijkHan", 2);
        rows("abcdefghijklmnopqrstuvwxyzabcdefghijklHH", "abcdefghijklmnopqrstuvwxyzabcdefghijklmH", 3);
    }

    private static void decks() {
        Notebookspire x = new Notebookspire();
        x.make(0, Notebookspire.DECK);
        x.make(0, Notebookspire.SHEET);
        x.show(0, 1, 0, 0);
        x.show(0, 1, 0, 0);
        x.slide(0, 0, 0);
        x.slide(0, 0, 0);
        x.box(0, 0, 0, 0, 0, 1);
        x.box(0, 0, 1, 2, 1, 1);
        x.version();
        x.box(0, 0, -1, 0, 0, 1);
        x.version();
        differ("43: the master", x, 0, 1, 0, 1);
        x.slide(0, 0, 2);
        x.box(0, 0, 0, 0, 1, 1);
        x.box(0, 0, 1, 2, 1, 2);
        x.version();
        differ("43: a show, a step and a slide more", x, 1, 2, 0, 3);
        differ("43: and the master", x, 0, 2, 0, 4);
        x.drop(0, 0, 0);
        x.version();
        differ("43: held against one another by their numbers", x, 2, 3, 0, 3);
        x.drop(0, 0, 0);
        x.drop(0, 0, 0);
        x.box(0, 0, -1, 0, -1, 0);
        x.box(0, 0, -1, 2, 0, 0);
        x.version();
        differ("43: without slides", x, 0, 4, 0, 3);
        differ("43: a master with other boxes counts one", x, 1, 4, 0, 3);
        differ("43: with itself", x, 4, 4, 0, 0);
        Notebookspire y = new Notebookspire();
        y.make(0, Notebookspire.DECK);
        y.slide(0, 0, 0);
        y.version();
        y.box(0, 0, 0, 1, -1, 2);
        y.version();
        differ("43: the step of a box that holds nothing", y, 0, 1, 0, 1);
        y.box(0, 0, -1, 1, -1, 2);
        y.version();
        differ("43: of the master, too", y, 1, 2, 0, 1);
        y.drop(0, 0, 0);
        y.version();
        y.slide(0, 0, 0);
        y.version();
        differ("43: one alone, though empty", y, 3, 4, 0, 1);
        differ("43: what a dropped one had is gone", y, 0, 4, 0, 1);
        Notebookspire z = new Notebookspire();
        z.make(0, Notebookspire.DECK);
        z.slide(0, 0, 0);
        z.slide(0, 0, 1);
        z.version();
        z.box(0, 0, 0, 0, -1, 1);
        z.box(0, 0, 0, 1, -1, 2);
        z.box(0, 0, 0, 2, -1, 3);
        z.slide(0, 0, 0);
        z.drop(0, 0, 1);
        z.version();
        differ("43: a new slide has the steps 0", z, 0, 1, 0, 0);
        for (int i = 0; i < 3; i++) {
            z.box(0, 0, 0, i, -1, 0);
            z.box(0, 0, -1, i, -1, 0);
        }
        z.version();
        differ("43: and so has the master", z, 1, 2, 0, 0);
    }

    private static void partsInOneAlone() {
        Notebookspire x = new Notebookspire();
        x.version();
        x.make(0, Notebookspire.SHEET);
        x.set(0, 0, 0, false, 1);
        x.version();
        x.make(0, Notebookspire.TEXT);
        Check.write(x, 0, 1, "abc");
        x.version();
        x.make(0, Notebookspire.DECK);
        x.slide(0, 2, 0);
        differ("43: in one alone", x, 0, 1, 0, 0);
        differ("43: in both", x, 1, 2, 0, 0);
        differ("43: in one alone", x, 1, 2, 1, 0);
        differ("43: in none", x, 0, 1, 1, 0);
        differ("43: in none yet", x, 1, 2, 2, 0);
        differ("43: with itself", x, 2, 2, 2, 0);
        x.version();
        differ("43: in one alone", x, 2, 3, 2, 0);
    }

    private static void wrongDifferences() {
        Notebookspire x = new Notebookspire();
        x.make(0, Notebookspire.SHEET);
        Check.index("43: none yet", x, () -> x.difference(0, 0, 0));
        x.version();
        x.version();
        for (int bad : Check.outside(0, 1)) {
            Check.index("43: one " + bad, x, () -> x.difference(bad, 0, 0));
            Check.index("43: other " + bad, x, () -> x.difference(0, bad, 0));
        }
        for (int bad : Check.outside(0, 0)) {
            Check.index("43: part " + bad, x, () -> x.difference(0, 1, bad));
        }
    }
}
