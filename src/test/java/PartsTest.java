/** Promises 1 to 4: a new object, make, give and right. */
public final class PartsTest {
    public static void main(String[] args) {
        fresh();
        made();
        given();
        asked();
        Check.end("PartsTest");
    }

    private static void fresh() {
        Notebookspire x = new Notebookspire();
        Check.index("1: no part", x, () -> x.right(0, 0));
        Check.index("1: no show", x, () -> x.shown(0, 0));
        Check.index("1: no comment", x, () -> x.about(0));
        Check.due("1: no lines", x.wipe(), 0);
        Check.due("1: no shows are redrawn", x.redrawn(), 0);
        Check.due("1: one round", x.rounds(), 1);
        Check.due("1: the first version", x.version(), 0);
        Check.index("1: no part to differ", x, () -> x.difference(0, 0, 0));
        Notebookspire y = new Notebookspire();
        x.make(0, 0);
        Check.index("1: another object has its own parts", y, () -> y.right(0, 0));
    }

    private static void made() {
        Notebookspire x = new Notebookspire();
        for (int bad : Check.outside(0, 3)) {
            Check.index("2: person " + bad, x, () -> x.make(bad, 0));
            Check.index("2: person ahead of kind " + bad, x, () -> x.make(bad, 9));
        }
        for (int bad : Check.outside(0, 2)) {
            Check.argument("2: kind " + bad, x, () -> x.make(0, bad));
        }
        for (int i = 0; i < 6; i++) {
            Check.due("2: the number", x.make(i % 4, i % 3), i);
        }
        Check.state("2: a seventh", x, () -> x.make(0, 0));
        Check.argument("2: kind ahead of too many", x, () -> x.make(0, 3));
        Check.index("2: person ahead of too many", x, () -> x.make(4, 0));
        Check.due("2: a TEXT is empty", x.length(1), 0);
        Check.due("2: a SHEET is empty", Check.cells(x, 0, 0), ",,;,,;,,;,,");
        Check.due("2: a DECK is empty", x.flat(2, 2, 3), 0);
        Check.due("2: a SHEET again", Check.cells(x, 3, 3), ",,;,,;,,;,,");
        Check.due("2: who made it owns it", x.right(5, 1), 3);
    }

    private static void given() {
        Notebookspire x = new Notebookspire();
        x.make(1, Notebookspire.TEXT);
        for (int bad : Check.outside(0, 3)) {
            Check.index("3: person " + bad, x, () -> x.give(bad, 0, 0, 1));
            Check.index("3: other " + bad, x, () -> x.give(1, 0, bad, 1));
            Check.argument("3: right " + bad, x, () -> x.give(1, 0, 0, bad));
            Check.argument("3: right ahead of owner " + bad, x, () -> x.give(2, 0, 0, bad));
            Check.index("3: person ahead of right " + bad, x, () -> x.give(bad, 0, 0, 7));
        }
        for (int bad : Check.outside(0, 0)) {
            Check.index("3: part " + bad, x, () -> x.give(1, bad, 0, 1));
        }
        Check.argument("3: to the owner", x, () -> x.give(1, 0, 1, 3));
        Check.argument("3: to the owner, by another one", x, () -> x.give(0, 0, 1, 3));
        Check.right("3: by another one", x, () -> x.give(0, 0, 2, 1));
        Check.due("3: before", x.give(1, 0, 0, 3), 0);
        Check.right("3: EDIT is not enough", x, () -> x.give(0, 0, 2, 1));
        Check.due("3: before", x.give(1, 0, 0, 1), 3);
        Check.due("3: before", x.give(1, 0, 0, 2), 1);
        Check.due("3: before", x.give(1, 0, 0, 0), 2);
        Check.due("3: before", x.give(1, 0, 3, 1), 0);
        Check.due("3: one's own", x.right(0, 3), 1);
        Check.due("3: of another one", x.right(0, 0), 0);
    }

    private static void asked() {
        Notebookspire x = new Notebookspire();
        x.make(2, Notebookspire.SHEET);
        x.make(0, Notebookspire.DECK);
        for (int person = 0; person < 4; person++) {
            Check.due("4: the owner alone", x.right(0, person), person == 2 ? 3 : 0);
            Check.due("4: the owner alone", x.right(1, person), person == 0 ? 3 : 0);
        }
        x.give(2, 0, 3, 2);
        Check.due("4: as given", x.right(0, 3), 2);
        Check.due("4: of that part", x.right(1, 3), 0);
        for (int bad : Check.outside(0, 3)) {
            Check.index("4: person " + bad, x, () -> x.right(0, bad));
        }
        for (int bad : Check.outside(0, 1)) {
            Check.index("4: part " + bad, x, () -> x.right(bad, 0));
        }
    }
}
