/** Promises 30 to 32: slide, drop and box. */
public final class DecksTest {
    public static void main(String[] args) {
        slides();
        wrongSlides();
        drops();
        boxes();
        masters();
        wrongBoxes();
        Check.end("DecksTest");
    }

    /** A DECK, a TEXT with the shows <a> to <e>, and a SHEET. */
    private static Notebookspire deck() {
        Notebookspire x = new Notebookspire();
        x.make(0, Notebookspire.DECK);
        x.make(0, Notebookspire.TEXT);
        x.make(0, Notebookspire.SHEET);
        x.give(0, 0, 1, 3);
        x.give(0, 0, 2, 2);
        Check.write(x, 0, 1, "abcde");
        for (int i = 0; i < 5; i++) {
            x.show(0, 1, i, i);
        }
        return x;
    }

    private static void is(String what, Notebookspire x, String want) {
        Check.due(what, Check.flat(x, 0, 0, 3), want);
    }

    private static void slides() {
        Notebookspire x = deck();
        is("30: none at first", x, "");
        Check.due("30: the first", x.slide(0, 0, 0), 1);
        x.box(0, 0, 0, 1, 0, 1);
        Check.due("30: ahead of it", x.slide(1, 0, 0), 2);
        x.box(0, 0, 0, 0, 1, 2);
        Check.due("30: behind them", x.slide(0, 0, 2), 3);
        x.box(0, 0, 2, 2, 2, 3);
        Check.due("30: between", x.slide(0, 0, 1), 4);
        is("30: the others are moved", x, "=<b>==<a>=<c>");
        Check.due("30: with their steps", Check.flat(x, 0, 0, 2), "=<b>==<a>=");
        Check.due("30: with their steps", Check.flat(x, 0, 0, 1), "===<a>=");
        Check.due("30: five", x.slide(0, 0, 4), 5);
        Check.due("30: six", x.slide(0, 0, 0), 6);
        is("30: six", x, "==<b>==<a>=<c>=");
        Check.state("30: a seventh", x, () -> x.slide(0, 0, 0));
        Check.right("30: right ahead of a seventh", x, () -> x.slide(2, 0, 0));
        Check.index("30: place ahead of a seventh", x, () -> x.slide(0, 0, 7));
    }

    private static void wrongSlides() {
        Notebookspire x = deck();
        x.slide(0, 0, 0);
        for (int bad : Check.outside(0, 3)) {
            Check.index("30: person " + bad, x, () -> x.slide(bad, 0, 0));
            Check.index("31: person " + bad, x, () -> x.drop(bad, 0, 0));
        }
        for (int bad : new int[] {-1, 1, 2, 3, Integer.MIN_VALUE, Integer.MAX_VALUE}) {
            Check.index("30: DECK " + bad, x, () -> x.slide(0, bad, 0));
            Check.index("31: DECK " + bad, x, () -> x.drop(0, bad, 0));
        }
        for (int bad : Check.outside(0, 1)) {
            Check.index("30: at " + bad, x, () -> x.slide(0, 0, bad));
            Check.index("30: at ahead of right " + bad, x, () -> x.slide(3, 0, bad));
        }
        for (int bad : Check.outside(0, 0)) {
            Check.index("31: slide " + bad, x, () -> x.drop(0, 0, bad));
            Check.index("31: slide ahead of right " + bad, x, () -> x.drop(3, 0, bad));
        }
        Check.right("30: NOTE is not enough", x, () -> x.slide(2, 0, 0));
        Check.right("31: NOTE is not enough", x, () -> x.drop(2, 0, 0));
    }

    private static void drops() {
        Notebookspire x = deck();
        for (int i = 0; i < 6; i++) {
            x.slide(0, 0, i);
            x.box(0, 0, i, i % 3, i % 5, i % 4);
        }
        Check.due("31: the third", x.drop(1, 0, 2), 5);
        is("31: the others are moved", x, "=<a>=<b>=<d>=<e>=<a>");
        Check.due("31: the last", x.drop(0, 0, 4), 4);
        Check.due("31: the first", x.drop(0, 0, 0), 3);
        is("31: three are left", x, "=<b>=<d>=<e>");
        Check.due("31: with their steps", Check.flat(x, 0, 0, 2), "=<b>==<e>");
        Check.due("30: a new one", x.slide(0, 0, 3), 4);
        is("30: is empty", x, "=<b>=<d>=<e>=");
        Check.due("32: in all its boxes", x.box(0, 0, 3, 0, -1, 0), -1);
        x.drop(0, 0, 0);
        x.drop(0, 0, 0);
        x.drop(0, 0, 0);
        Check.due("31: none is left", x.drop(0, 0, 0), 0);
        Check.index("31: none to drop", x, () -> x.drop(0, 0, 0));
    }

    private static void boxes() {
        Notebookspire x = deck();
        x.slide(0, 0, 0);
        x.slide(0, 0, 0);
        Check.due("32: nothing before", x.box(0, 0, 0, 2, 4, 0), -1);
        Check.due("32: the show before", x.box(1, 0, 0, 2, 3, 2), 4);
        Check.due("32: the first box", x.box(0, 0, 0, 0, 1, 1), -1);
        Check.due("32: the same again", x.box(0, 0, 0, 0, 1, 1), 1);
        is("32: box by box", x, "=<b><d>=");
        Check.due("32: at the step 0", Check.flat(x, 0, 0, 0), "==");
        Check.due("32: at the step 1", Check.flat(x, 0, 0, 1), "=<b>=");
        Check.due("32: at the step 2", Check.flat(x, 0, 0, 2), "=<b><d>=");
        Check.due("32: nothing again", x.box(0, 0, 0, 0, -1, 3), 1);
        is("32: one is left", x, "=<d>=");
        Check.due("32: the same show twice", x.box(0, 0, 1, 1, 3, 0), -1);
        is("32: twice", x, "=<d>=<d>");
    }

    private static void masters() {
        Notebookspire x = deck();
        Check.due("32: the master", x.box(0, 0, -1, 1, 0, 2), -1);
        is("32: is no slide", x, "");
        x.slide(0, 0, 0);
        x.slide(0, 0, 1);
        is("32: is shown in both", x, "=<a>=<a>");
        Check.due("32: at its step", Check.flat(x, 0, 0, 1), "==");
        x.box(0, 0, 1, 1, -1, 0);
        Check.due("32: at its step, whatever the slide's is", Check.flat(x, 0, 0, 1), "==");
        x.box(0, 0, 1, 1, 1, 1);
        is("32: not where there is something", x, "=<a>=<b>");
        Check.due("32: nor ahead of its step", Check.flat(x, 0, 0, 0), "==");
        Check.due("32: nor behind the other one's", Check.flat(x, 0, 0, 1), "==<b>");
        Check.due("32: the show before", x.box(0, 0, -1, 1, 2, 3), 0);
        is("32: another one in the master", x, "=<c>=<b>");
        x.drop(0, 0, 0);
        is("31: the master stays", x, "=<b>");
        Check.due("32: nothing", x.box(0, 0, -1, 1, -1, 0), 2);
        is("32: nothing", x, "=<b>");
    }

    private static void wrongBoxes() {
        Notebookspire x = deck();
        x.slide(0, 0, 0);
        for (int bad : Check.outside(0, 3)) {
            Check.index("32: person " + bad, x, () -> x.box(bad, 0, 0, 0, 0, 0));
            Check.argument("32: step " + bad, x, () -> x.box(0, 0, 0, 0, 0, bad));
            Check.argument("32: step ahead of right " + bad, x, () -> x.box(2, 0, 0, 0, 0, bad));
        }
        for (int bad : new int[] {-1, 1, 2, 3, Integer.MIN_VALUE, Integer.MAX_VALUE}) {
            Check.index("32: DECK " + bad, x, () -> x.box(0, bad, 0, 0, 0, 0));
        }
        for (int bad : Check.outside(-1, 0)) {
            Check.index("32: slide " + bad, x, () -> x.box(0, 0, bad, 0, 0, 0));
        }
        for (int bad : Check.outside(0, 2)) {
            Check.index("32: box " + bad, x, () -> x.box(0, 0, 0, bad, 0, 0));
        }
        for (int bad : Check.outside(-1, 4)) {
            Check.index("32: show " + bad, x, () -> x.box(0, 0, 0, 0, bad, 0));
            Check.index("32: show ahead of step " + bad, x, () -> x.box(2, 0, 0, 0, bad, 4));
        }
        Check.right("32: NOTE is not enough", x, () -> x.box(2, 0, 0, 0, 0, 0));
    }
}
