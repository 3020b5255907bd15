/** Promises 18 to 25: length, token, tokenByLog, log, block, setSize, size and model. */
public final class TextsTest {
    public static void main(String[] args) {
        rows();
        blocks();
        wrongBlocks();
        sizes();
        wrongSizes();
        models();
        wrongModels();
        Check.end("TextsTest");
    }

    private static Notebookspire text(String row) {
        Notebookspire x = new Notebookspire();
        x.make(0, Notebookspire.TEXT);
        Check.write(x, 0, 0, row);
        return x;
    }

    private static void rows() {
        Notebookspire x = text("aHz");
        x.make(0, Notebookspire.SHEET);
        x.make(1, Notebookspire.TEXT);
        Check.due("18: length", x.length(0), 3);
        Check.due("18: of another one", x.length(2), 0);
        Check.due("19: a letter", x.token(0, 0), 0);
        Check.due("19: a BREAK", x.token(0, 1), 100);
        Check.due("19: the last one", x.token(0, 2), 25);
        Check.due("20: by the log", Check.rowByLog(x, 0), "aHz");
        Check.due("21: log", x.log(0), 3);
        x.put(0, 0, 0, 5);
        x.out(0, 0, 2);
        Check.due("18: own edits count for nothing", x.length(0), 3);
        Check.due("21: nor here", x.log(0), 3);
        Check.due("20: nor here", x.tokenByLog(0, 0), 0);
        x.send(0, 0);
        Check.due("21: sent", x.log(0), 5);
        Check.due("19: sent", Check.row(x, 0), "faz");
        Check.due("20: sent", Check.rowByLog(x, 0), "faz");
        for (int bad : Check.outside(0, 2)) {
            Check.index("19: place " + bad, x, () -> x.token(0, bad));
            Check.index("20: place " + bad, x, () -> x.tokenByLog(0, bad));
        }
        for (int bad : new int[] {-1, 1, 3, Integer.MIN_VALUE, Integer.MAX_VALUE}) {
            Check.index("18: TEXT " + bad, x, () -> x.length(bad));
            Check.index("19: TEXT " + bad, x, () -> x.token(bad, 0));
            Check.index("20: TEXT " + bad, x, () -> x.tokenByLog(bad, 0));
            Check.index("21: TEXT " + bad, x, () -> x.log(bad));
        }
        Check.index("19: an empty row", x, () -> x.token(2, 0));
        Check.index("20: an empty row", x, () -> x.tokenByLog(2, 0));
    }

    private static void isBlocked(String row, int... want) {
        Notebookspire x = text(row);
        for (int i = 0; i <= row.length(); i++) {
            Check.due("22: " + row + " at " + i, x.block(0, i), want[i]);
        }
    }

    private static void blocks() {
        isBlocked("", 0);
        isBlocked("a", 0, 0);
        isBlocked("H", 100, 100);
        isBlocked("S", 1, 1);
        isBlocked("aHbSc", 0, 100, 100, 101, 101, 101);
        isBlocked("SSHSSHS", 1, 2, 100, 101, 102, 200, 201, 201);
        isBlocked("RaBbRSRH", 1, 1, 0, 0, 2, 1, 3, 100, 100);
        isBlocked("HSBSRS", 100, 101, 0, 102, 1, 103, 103);
        isBlocked("HHH", 100, 200, 300, 300);
    }

    private static void wrongBlocks() {
        Notebookspire x = text("ab");
        x.make(0, Notebookspire.DECK);
        for (int bad : Check.outside(0, 2)) {
            Check.index("22: place " + bad, x, () -> x.block(0, bad));
        }
        for (int bad : Check.outside(0, 0)) {
            Check.index("22: TEXT " + bad, x, () -> x.block(bad, 0));
        }
    }

    private static void sizes() {
        Notebookspire x = text("");
        int[] first = {30, 20, 10, 8};
        for (int sort = 0; sort < 4; sort++) {
            Check.due("24: at first", x.size(0, sort), first[sort]);
            Check.due("23: at first", x.setSize(0, 0, sort, 99 - sort), first[sort]);
            Check.due("24: as set", x.size(0, sort), 99 - sort);
        }
        Check.due("23: the least", x.setSize(0, 0, 2, 1), 97);
        Check.due("23: taken back", x.setSize(0, 0, 2, 0), 1);
        Check.due("24: taken back", x.size(0, 2), 10);
        Check.due("23: taken back again", x.setSize(0, 0, 2, 0), 10);
        x.make(0, Notebookspire.TEXT);
        Check.due("24: of another TEXT", x.size(1, 0), 30);
    }

    private static void wrongSizes() {
        Notebookspire x = text("");
        x.make(0, Notebookspire.SHEET);
        x.give(0, 0, 1, 2);
        for (int bad : Check.outside(0, 3)) {
            Check.index("23: person " + bad, x, () -> x.setSize(bad, 0, 0, 1));
            Check.argument("23: sort " + bad, x, () -> x.setSize(0, 0, bad, 1));
            Check.argument("23: sort ahead of right " + bad, x, () -> x.setSize(1, 0, bad, 1));
            Check.argument("24: sort " + bad, x, () -> x.size(0, bad));
            Check.index("24: TEXT ahead of sort " + bad, x, () -> x.size(1, bad));
        }
        for (int bad : Check.outside(0, 99)) {
            Check.argument("23: size " + bad, x, () -> x.setSize(0, 0, 0, bad));
            Check.argument("23: size ahead of right " + bad, x, () -> x.setSize(1, 0, 0, bad));
        }
        for (int bad : Check.outside(0, 0)) {
            Check.index("23: TEXT " + bad, x, () -> x.setSize(0, bad, 0, 1));
            Check.index("23: TEXT ahead of size " + bad, x, () -> x.setSize(0, bad, 0, -1));
            Check.index("24: TEXT " + bad, x, () -> x.size(bad, 0));
        }
        Check.right("23: NOTE is not enough", x, () -> x.setSize(1, 0, 0, 1));
    }

    private static void models() {
        Notebookspire x = text("");
        x.make(0, Notebookspire.TEXT);
        x.make(0, Notebookspire.TEXT);
        Check.due("25: none before", x.model(0, 0, 1), -1);
        Check.due("25: none before", x.model(0, 1, 2), -1);
        x.setSize(0, 2, 0, 55);
        x.setSize(0, 1, 1, 44);
        Check.due("24: by two models", x.size(0, 0), 55);
        Check.due("24: by one", x.size(0, 1), 44);
        Check.due("24: by none of them", x.size(0, 3), 8);
        Check.due("23: that of a model", x.setSize(0, 0, 0, 5), 55);
        Check.due("24: one's own ahead", x.size(0, 0), 5);
        Check.due("23: taken back", x.setSize(0, 0, 0, 0), 5);
        Check.due("24: that of a model again", x.size(0, 0), 55);
        Check.state("25: to itself", x, () -> x.model(0, 0, 0));
        Check.state("25: to itself by one", x, () -> x.model(0, 1, 0));
        Check.state("25: to itself by two", x, () -> x.model(0, 2, 0));
        Check.due("25: another one", x.model(0, 0, 2), 1);
        Check.due("25: the same", x.model(0, 0, 2), 2);
        Check.due("24: by the other one", x.size(0, 1), 20);
        Check.due("25: none", x.model(0, 0, -1), 2);
        Check.due("25: none again", x.model(0, 0, -1), -1);
        Check.due("24: without one", x.size(0, 0), 30);
        Check.due("25: the other way", x.model(0, 2, 0), -1);
    }

    private static void wrongModels() {
        Notebookspire x = text("");
        x.make(1, Notebookspire.TEXT);
        x.make(0, Notebookspire.SHEET);
        for (int bad : Check.outside(0, 3)) {
            Check.index("25: person " + bad, x, () -> x.model(bad, 0, -1));
        }
        for (int bad : new int[] {-1, 2, 3, Integer.MIN_VALUE, Integer.MAX_VALUE}) {
            Check.index("25: TEXT " + bad, x, () -> x.model(0, bad, -1));
            if (bad != -1) {
                Check.index("25: model " + bad, x, () -> x.model(0, 0, bad));
                Check.index("25: model ahead of right " + bad, x, () -> x.model(1, 0, bad));
            }
        }
        Check.right("25: no SEE to the model", x, () -> x.model(0, 0, 1));
        x.give(1, 1, 0, 1);
        Check.due("25: SEE is enough", x.model(0, 0, 1), -1);
        x.give(0, 0, 1, 2);
        Check.right("25: NOTE is not enough", x, () -> x.model(1, 0, -1));
        Check.right("25: nor to itself", x, () -> x.model(1, 0, 0));
        Check.right("25: right ahead of what leads to itself", x, () -> x.model(0, 1, 0));
        x.give(1, 1, 0, 0);
        Check.due("24: models are seen through", x.size(0, 0), 30);
        Check.due("25: none needs no SEE", x.model(0, 0, -1), 1);
    }
}
