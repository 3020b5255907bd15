/** Promises 5 to 10: set, formula, what, value, valueAnew and rounds. */
public final class SheetsTest {
    private static final int PLUS = 0, MINUS = 1, TIMES = 2, SUM = 3, LIST = 4;

    public static void main(String[] args) {
        setsCells();
        wrongSets();
        formulas();
        wrongFormulas();
        sums();
        lists();
        blockedLists();
        hidden();
        asks();
        rounds();
        Check.end("SheetsTest");
    }

    private static Notebookspire sheet() {
        Notebookspire x = new Notebookspire();
        x.make(0, Notebookspire.SHEET);
        return x;
    }

    private static void is(String what, Notebookspire x, int part, int cell, int kind, int value) {
        Check.due(what + ": what", x.what(0, part, cell), kind);
        Check.due(what + ": value", x.value(0, part, cell), value);
        Check.due(what + ": value anew", x.valueAnew(0, part, cell), value);
    }

    private static void setsCells() {
        Notebookspire x = sheet();
        is("5: blank at first", x, 0, 0, 0, 0);
        x.set(0, 0, 0, false, 1000);
        x.set(0, 0, 11, false, -1000);
        x.set(0, 0, 5, false, 0);
        is("5: the greatest", x, 0, 0, 1, 1000);
        is("5: the least", x, 0, 11, 1, -1000);
        is("5: nought is a number", x, 0, 5, 1, 0);
        x.set(0, 0, 0, true, 5000);
        is("5: blank again, whatever number", x, 0, 0, 0, 0);
        x.formula(0, 0, 1, PLUS, 0, 11, 0, 11);
        x.set(0, 0, 1, false, 4);
        is("5: in place of a formula", x, 0, 1, 1, 4);
        x.formula(0, 0, 1, PLUS, 0, 11, 0, 11);
        x.set(0, 0, 1, true, 4);
        is("5: blank in place of a formula", x, 0, 1, 0, 0);
    }

    private static void wrongSets() {
        Notebookspire x = sheet();
        x.make(0, Notebookspire.TEXT);
        x.give(0, 0, 1, 2);
        for (int bad : Check.outside(0, 3)) {
            Check.index("5: person " + bad, x, () -> x.set(bad, 0, 0, false, 1));
        }
        for (int bad : Check.outside(0, 11)) {
            Check.index("5: cell " + bad, x, () -> x.set(0, 0, bad, false, 1));
            Check.index("5: cell ahead of number " + bad, x, () -> x.set(1, 0, bad, false, 1001));
        }
        for (int bad : Check.outside(-1000, 1000)) {
            Check.argument("5: number " + bad, x, () -> x.set(0, 0, 0, false, bad));
            Check.argument("5: number ahead of right " + bad, x, () -> x.set(1, 0, 0, false, bad));
        }
        for (int bad : new int[] {-1, 1, 2, Integer.MIN_VALUE, Integer.MAX_VALUE}) {
            Check.index("5: SHEET " + bad, x, () -> x.set(0, bad, 0, false, 1));
        }
        Check.right("5: NOTE is not enough", x, () -> x.set(1, 0, 0, false, 1));
        Check.right("5: nor to make blank", x, () -> x.set(1, 0, 0, true, 1001));
        x.give(0, 0, 1, 3);
        x.set(1, 0, 0, false, 1);
        is("5: EDIT is enough", x, 0, 0, 1, 1);
    }

    private static void formulas() {
        Notebookspire x = sheet();
        x.make(0, Notebookspire.TEXT);
        x.make(0, Notebookspire.SHEET);
        x.set(0, 0, 0, false, 7);
        x.set(0, 2, 4, false, -3);
        x.formula(0, 0, 1, PLUS, 0, 0, 2, 4);
        x.formula(0, 0, 2, MINUS, 0, 0, 2, 4);
        x.formula(0, 0, 3, TIMES, 0, 0, 2, 4);
        is("6: PLUS", x, 0, 1, 1, 4);
        is("6: MINUS", x, 0, 2, 1, 10);
        is("6: TIMES", x, 0, 3, 1, -21);
        x.formula(0, 0, 4, MINUS, 0, 11, 2, 4);
        is("6: a blank counts 0", x, 0, 4, 1, 3);
        x.formula(0, 2, 0, TIMES, 0, 3, 0, 1);
        is("6: in another SHEET", x, 2, 0, 1, -84);
        Notebookspire y = sheet();
        y.set(0, 0, 0, false, 1000);
        y.formula(0, 0, 1, TIMES, 0, 0, 0, 0);
        is("6: 1000000 is not over", y, 0, 1, 1, 1000000);
        y.set(0, 0, 2, false, 1);
        y.formula(0, 0, 3, PLUS, 0, 1, 0, 2);
        is("6: above it", y, 0, 3, 2, 1);
        y.formula(0, 0, 4, MINUS, 0, 8, 0, 1);
        is("6: -1000000 is not over", y, 0, 4, 1, -1000000);
        y.formula(0, 0, 5, MINUS, 0, 4, 0, 2);
        is("6: below it", y, 0, 5, 2, 1);
        y.formula(0, 0, 6, TIMES, 0, 1, 0, 1);
        is("6: a product beyond an int", y, 0, 6, 2, 1);
        y.formula(0, 0, 7, LIST, 0, 2, 0, 0);
        y.formula(0, 0, 9, LIST, 0, 0, 0, 0);
        y.set(0, 0, 10, false, 1);
        y.formula(0, 0, 11, LIST, 0, 0, 0, 0);
        y.set(0, 0, 7, true, 0);
        y.formula(0, 0, 7, PLUS, 0, 11, 0, 6);
        is("6: an error stays", y, 0, 7, 2, 1);
    }

    private static void wrongFormulas() {
        Notebookspire x = sheet();
        x.make(0, Notebookspire.TEXT);
        x.give(0, 0, 1, 2);
        for (int bad : Check.outside(0, 3)) {
            Check.index("6: person " + bad, x, () -> x.formula(bad, 0, 0, PLUS, 0, 0, 0, 0));
        }
        for (int bad : Check.outside(0, 11)) {
            Check.index("6: cell " + bad, x, () -> x.formula(0, 0, bad, PLUS, 0, 0, 0, 0));
            for (int kind = -1; kind <= 5; kind++) {
                int k = kind;
                Check.index("6: first of " + k + " " + bad, x, () -> x.formula(0, 0, 0, k, 0, bad, 0, 0));
                if (k != LIST) {
                    Check.index("6: second of " + k + " " + bad, x, () -> x.formula(0, 0, 0, k, 0, 0, 0, bad));
                }
            }
        }
        for (int bad : new int[] {-1, 1, 2, Integer.MIN_VALUE, Integer.MAX_VALUE}) {
            Check.index("6: part " + bad, x, () -> x.formula(0, bad, 0, PLUS, 0, 0, 0, 0));
            for (int kind = -1; kind <= 5; kind++) {
                int k = kind;
                Check.index("6: sheet of " + k + " " + bad, x, () -> x.formula(0, 0, 0, k, bad, 0, 0, 0));
                if (k != LIST && k != SUM) {
                    Check.index("6: other of " + k + " " + bad, x, () -> x.formula(0, 0, 0, k, 0, 0, bad, 0));
                }
            }
        }
        for (int bad : Check.outside(0, 4)) {
            Check.argument("6: kind " + bad, x, () -> x.formula(0, 0, 0, bad, 0, 0, 0, 0));
            Check.argument("6: kind ahead of right " + bad, x, () -> x.formula(1, 0, 0, bad, 0, 0, 0, 0));
        }
        Check.right("6: NOTE is not enough", x, () -> x.formula(1, 0, 0, PLUS, 0, 0, 0, 0));
        x.set(0, 0, 4, false, 2);
        x.formula(0, 0, 0, SUM, 0, 4, 77, 5);
        is("6: SUM looks at no other SHEET", x, 0, 0, 1, 2);
        x.formula(0, 0, 2, LIST, 0, 4, -5, 99);
        is("6: LIST looks at one cell", x, 0, 2, 1, 1);
    }

    private static void sums() {
        Notebookspire x = sheet();
        for (int i = 0; i < 12; i++) {
            x.set(0, 0, i, false, 1 << i % 9);
        }
        x.make(0, Notebookspire.SHEET);
        int s = 0;
        for (int i : new int[] {1, 2, 4, 5, 7, 8}) {
            s += 1 << i;
        }
        x.formula(0, 1, 0, SUM, 0, 1, 0, 8);
        x.formula(0, 1, 1, SUM, 0, 8, 0, 1);
        x.formula(0, 1, 2, SUM, 0, 2, 0, 7);
        x.formula(0, 1, 3, SUM, 0, 7, 0, 2);
        x.formula(0, 1, 4, SUM, 0, 6, 0, 6);
        for (int i = 0; i < 4; i++) {
            is("6: the same range by other corners", x, 1, i, 1, s);
        }
        is("6: a range of one", x, 1, 4, 1, 64);
        x.set(0, 0, 4, true, 0);
        is("6: a blank counts 0", x, 1, 0, 1, s - 16);
        x.formula(0, 0, 5, LIST, 0, 0, 0, 0);
        x.set(0, 0, 0, false, 5);
        is("6: an error in it", x, 1, 0, 2, 1);
        x.formula(0, 0, 2, LIST, 0, 8, 0, 0);
        x.set(0, 0, 8, false, 2);
        is("6: the first error", x, 1, 0, 2, 2);
        Notebookspire y = sheet();
        y.set(0, 0, 0, false, 1000);
        y.formula(0, 0, 1, TIMES, 0, 0, 0, 0);
        y.set(0, 0, 2, false, 1);
        y.formula(0, 0, 3, SUM, 0, 1, 0, 2);
        is("6: a sum above", y, 0, 3, 2, 1);
        y.set(0, 0, 2, false, 0);
        is("6: a sum that is not above", y, 0, 3, 1, 1000000);
        y.set(0, 0, 2, false, 1);
        y.set(0, 0, 4, false, -1);
        y.formula(0, 0, 6, SUM, 0, 1, 0, 5);
        is("6: over on the way is not over", y, 0, 6, 1, 1000000);
        y.set(0, 0, 0, false, -1000);
        y.set(0, 0, 7, false, 1000);
        y.formula(0, 0, 1, TIMES, 0, 0, 0, 7);
        y.set(0, 0, 2, false, -1);
        is("6: a sum below", y, 0, 3, 2, 1);
    }

    private static void lists() {
        Notebookspire x = sheet();
        x.set(0, 0, 0, false, 4);
        x.formula(0, 0, 1, LIST, 0, 0, 0, 0);
        Check.due("6: spills", Check.cells(x, 0, 0), "4,1,;,2,;,3,;,4,");
        is("6: what spills is a number", x, 0, 10, 1, 4);
        x.set(0, 0, 0, false, 3);
        Check.due("6: fewer", Check.cells(x, 0, 0), "3,1,;,2,;,3,;,,");
        is("6: behind the last blank", x, 0, 10, 0, 0);
        x.formula(0, 0, 2, PLUS, 0, 4, 0, 7);
        is("6: numbers of what spills", x, 0, 2, 1, 5);
        x.formula(0, 0, 9, SUM, 0, 1, 0, 10);
        is("6: and in a range", x, 0, 9, 1, 6);
        x.set(0, 0, 0, false, 1);
        Check.due("6: one", Check.cells(x, 0, 0), "1,1,0;,,;,,;1,,");
        x.set(0, 0, 0, false, 5);
        is("6: 5 is over", x, 0, 1, 2, 1);
        is("6: nothing spills then", x, 0, 4, 0, 0);
        x.set(0, 0, 0, false, 0);
        is("6: 0 is over", x, 0, 1, 2, 1);
        x.set(0, 0, 0, true, 0);
        is("6: blank is 0", x, 0, 1, 2, 1);
        x.set(0, 0, 0, false, -1);
        is("6: -1 is over", x, 0, 1, 2, 1);
        x.set(0, 0, 3, false, 9);
        x.formula(0, 0, 0, LIST, 0, 3, 0, 0);
        is("6: an error stays", x, 0, 1, 2, 1);
        x.formula(0, 0, 4, LIST, 0, 4, 0, 0);
        Check.due("6: a number does not spill", x.what(0, 0, 6), 0);
    }

    private static void blockedLists() {
        Notebookspire x = sheet();
        x.set(0, 0, 0, false, 4);
        x.formula(0, 0, 4, LIST, 0, 0, 0, 0);
        is("6: too few rows", x, 0, 4, 2, 2);
        x.set(0, 0, 0, false, 3);
        is("6: rows enough", x, 0, 4, 1, 1);
        is("6: the last row", x, 0, 10, 1, 3);
        x.set(0, 0, 10, false, 8);
        is("6: a number in the way", x, 0, 4, 2, 2);
        is("6: nothing spills from it", x, 0, 7, 0, 0);
        x.set(0, 0, 0, false, 2);
        is("6: it is not in the way of two", x, 0, 4, 1, 1);
        is("6: two", x, 0, 7, 1, 2);
        x.set(0, 0, 0, false, 1);
        x.set(0, 0, 7, false, 8);
        is("6: one needs no rows", x, 0, 4, 1, 1);
        x.set(0, 0, 0, false, 2);
        is("6: a number right below", x, 0, 4, 2, 2);
        x.formula(0, 0, 7, LIST, 0, 0, 0, 0);
        is("6: a LIST below", x, 0, 7, 2, 2);
        x.set(0, 0, 10, true, 0);
        Check.due("6: the next one above is it that spills", Check.cells(x, 0, 0), "2,,;,!,;,1,;,2,");
    }

    private static void hidden() {
        Notebookspire x = sheet();
        x.make(1, Notebookspire.SHEET);
        x.set(1, 1, 0, false, 5);
        x.formula(0, 0, 0, PLUS, 0, 11, 1, 0);
        x.formula(0, 0, 1, LIST, 1, 0, 0, 0);
        x.formula(0, 0, 2, SUM, 1, 0, 0, 3);
        is("6: PLUS of what is hidden", x, 0, 0, 2, 3);
        is("6: LIST of what is hidden", x, 0, 1, 2, 3);
        is("6: SUM of what is hidden", x, 0, 2, 2, 3);
        x.give(1, 1, 0, 1);
        is("6: SEE is enough", x, 0, 0, 1, 5);
        is("6: SEE is enough for SUM", x, 0, 2, 1, 5);
        x.formula(0, 0, 3, MINUS, 0, 1, 1, 0);
        is("6: the first cell's error ahead", x, 0, 3, 2, 1);
        x.give(0, 0, 1, 3);
        x.give(1, 1, 0, 0);
        is("6: hidden again", x, 0, 0, 2, 3);
        is("6: the first cell's error ahead of another one", x, 0, 3, 2, 3);
        x.formula(1, 0, 4, PLUS, 1, 0, 1, 0);
        Check.due("6: the owner of the SHEET counts, not who made the formula", x.value(1, 0, 4), 3);
        x.formula(1, 1, 4, PLUS, 1, 0, 1, 0);
        Check.due("6: not of one's own SHEET", x.value(1, 1, 4), 10);
    }

    private static void asks() {
        Notebookspire x = sheet();
        x.make(0, Notebookspire.TEXT);
        x.make(0, Notebookspire.DECK);
        x.set(0, 0, 3, false, 6);
        Check.right("7: no right", x, () -> x.what(1, 0, 3));
        Check.right("8: no right", x, () -> x.value(1, 0, 3));
        Check.right("9: no right", x, () -> x.valueAnew(1, 0, 3));
        x.give(0, 0, 1, 1);
        Check.due("7: SEE is enough", x.what(1, 0, 3), 1);
        Check.due("8: SEE is enough", x.value(1, 0, 3), 6);
        Check.due("9: SEE is enough", x.valueAnew(1, 0, 3), 6);
        for (int bad : Check.outside(0, 3)) {
            Check.index("7: person " + bad, x, () -> x.what(bad, 0, 3));
            Check.index("8: person " + bad, x, () -> x.value(bad, 0, 3));
            Check.index("9: person " + bad, x, () -> x.valueAnew(bad, 0, 3));
        }
        for (int bad : Check.outside(0, 11)) {
            Check.index("7: cell ahead of right " + bad, x, () -> x.what(2, 0, bad));
            Check.index("8: cell ahead of right " + bad, x, () -> x.value(2, 0, bad));
            Check.index("9: cell ahead of right " + bad, x, () -> x.valueAnew(2, 0, bad));
        }
        for (int bad : new int[] {-1, 1, 2, 3, Integer.MIN_VALUE, Integer.MAX_VALUE}) {
            Check.index("7: SHEET " + bad, x, () -> x.what(0, bad, 3));
            Check.index("8: SHEET " + bad, x, () -> x.value(0, bad, 3));
            Check.index("9: SHEET " + bad, x, () -> x.valueAnew(0, bad, 3));
        }
    }

    private static void rounds() {
        Notebookspire x = new Notebookspire();
        Check.due("10: no SHEET", x.rounds(), 1);
        x.make(0, Notebookspire.SHEET);
        x.set(0, 0, 0, false, 3);
        Check.due("10: no formula", x.rounds(), 1);
        x.formula(0, 0, 5, PLUS, 0, 11, 0, 11);
        Check.due("10: one that is 0 at once", x.rounds(), 1);
        x.formula(0, 0, 1, PLUS, 0, 0, 0, 0);
        Check.due("10: one", x.rounds(), 2);
        x.formula(0, 0, 2, PLUS, 0, 1, 0, 1);
        Check.due("10: ahead of it in this round", x.rounds(), 2);
        x.set(0, 0, 11, false, 1);
        x.formula(0, 0, 5, PLUS, 0, 8, 0, 8);
        x.formula(0, 0, 8, PLUS, 0, 10, 0, 10);
        x.formula(0, 0, 10, PLUS, 0, 11, 0, 11);
        Check.due("10: against the order", x.rounds(), 4);
        is("10: and its value", x, 0, 5, 1, 8);
        Notebookspire y = sheet();
        y.set(0, 0, 1, false, 1);
        y.formula(0, 0, 0, PLUS, 0, 0, 0, 1);
        Check.due("10: the 20th is the last one", y.rounds(), 20);
        is("8: of a formula of itself", y, 0, 0, 1, 20);
        y.set(0, 0, 1, true, 0);
        Check.due("10: a formula of itself that rests", y.rounds(), 1);
        Notebookspire z = sheet();
        z.set(0, 0, 1, false, 2);
        z.formula(0, 0, 0, LIST, 0, 1, 0, 0);
        z.formula(0, 0, 4, PLUS, 0, 3, 0, 3);
        Check.due("10: a LIST", z.rounds(), 2);
        is("8: of what it spills", z, 0, 4, 1, 4);
        Notebookspire w = sheet();
        w.set(0, 0, 11, false, 5);
        w.formula(0, 0, 0, LIST, 0, 1, 0, 0);
        w.formula(0, 0, 1, PLUS, 0, 11, 0, 11);
        Check.due("10: an error has no count", w.rounds(), 2);
        Notebookspire v = sheet();
        v.set(0, 0, 11, false, 2);
        v.formula(0, 0, 0, LIST, 0, 1, 0, 0);
        v.formula(0, 0, 1, LIST, 0, 2, 0, 0);
        v.formula(0, 0, 2, PLUS, 0, 11, 0, 10);
        Check.due("10: a LIST of a LIST", v.rounds(), 4);
        Notebookspire u = sheet();
        u.formula(0, 0, 1, LIST, 0, 8, 0, 0);
        u.formula(0, 0, 8, PLUS, 0, 4, 0, 5);
        u.set(0, 0, 5, false, 2);
        Check.due("10: a LIST by what it spills", Check.cells(u, 0, 0), ",1,;,2,2;,3,4;,4,");
        Check.due("10: a count becomes another one", u.rounds(), 4);
    }
}
