/** Promises 44 to 46: line, wipe and run. */
public final class MacrosTest {
    private static final int WRITE = 0, ADD = 1, MOVE = 2, TYPE = 3, COUNT = 4, BACK = 5;

    public static void main(String[] args) {
        lines();
        wrongLines();
        wiped();
        cells();
        endsOfAdding();
        loops();
        steps();
        typed();
        fullRows();
        longLogs();
        wrongRuns();
        Check.end("MacrosTest");
    }

    /** A SHEET and a TEXT of the person 0, to which 1 has EDIT, and lines, each as its kind and its number. */
    private static Notebookspire macro(int... lines) {
        Notebookspire x = new Notebookspire();
        x.make(0, Notebookspire.SHEET);
        x.make(0, Notebookspire.TEXT);
        x.give(0, 0, 1, 3);
        x.give(0, 1, 1, 3);
        anew(x, lines);
        return x;
    }

    private static void anew(Notebookspire x, int... lines) {
        x.wipe();
        for (int i = 0; i < lines.length; i += 2) {
            x.line(lines[i], lines[i + 1]);
        }
    }

    private static void lines() {
        Notebookspire x = macro();
        int[][] fine = {{WRITE, -99}, {WRITE, 99}, {ADD, -99}, {ADD, 99}, {MOVE, 0}, {MOVE, 11}, {TYPE, 0}, {TYPE, 25},
            {COUNT, 0}, {COUNT, 9}, {BACK, 0}, {BACK, 9}};
        for (int i = 0; i < fine.length; i++) {
            int[] line = fine[i];
            if (i < 8) {
                Check.due("44: how many", x.line(line[0], line[1]), i + 1);
            } else {
                Check.state("44: a ninth", x, () -> x.line(line[0], line[1]));
            }
        }
        Check.argument("44: its number ahead of a ninth", x, () -> x.line(COUNT, 10));
        x.wipe();
        for (int i = 8; i < fine.length; i++) {
            Check.due("44: how many, anew", x.line(fine[i][0], fine[i][1]), i - 7);
        }
    }

    private static void wrongLines() {
        Notebookspire x = macro();
        for (int bad : Check.outside(0, 5)) {
            Check.argument("44: kind " + bad, x, () -> x.line(bad, 0));
        }
        int[] least = {-99, -99, 0, 0, 0, 0};
        int[] most = {99, 99, 11, 25, 9, 9};
        for (int kind = 0; kind < 6; kind++) {
            int k = kind;
            for (int bad : Check.outside(least[k], most[k])) {
                Check.argument("44: number of " + k + " " + bad, x, () -> x.line(k, bad));
            }
        }
        Check.due("45: none was added", x.wipe(), 0);
    }

    private static void wiped() {
        Notebookspire x = macro(WRITE, 1, WRITE, 2, WRITE, 3);
        Check.due("45: how many there were", x.wipe(), 3);
        Check.due("45: none", x.wipe(), 0);
        Check.due("46: nothing to do", x.run(0, 0, 1), 0);
        Check.due("44: the first one again", x.line(WRITE, 4), 1);
        Check.due("46: that alone", x.run(0, 0, 1), 1);
        Check.due("46: its number", x.value(0, 0, 0), 4);
    }

    private static void cells() {
        Notebookspire x = macro(WRITE, -99, MOVE, 5, WRITE, 99, MOVE, 11, ADD, 7, MOVE, 8, ADD, -5, ADD, -6);
        x.formula(0, 0, 5, 0, 0, 0, 0, 0);
        x.set(0, 0, 4, false, 3);
        Check.due("46: all lines", x.run(1, 0, 1), 8);
        Check.due("46: the cells", Check.cells(x, 0, 0), "-110,,;,10,99;,,;,,");
        anew(x, ADD, 1, MOVE, 0, ADD, 2);
        Check.due("46: from the first cell on", x.run(0, 0, 1), 3);
        Check.due("46: MOVE by 0", x.value(0, 0, 0), -107);
        Notebookspire y = macro(MOVE, 3, ADD, 9);
        y.set(0, 0, 2, false, 3);
        y.formula(0, 0, 0, 4, 0, 2, 0, 0);
        Check.due("46: a blank one counts 0, whatever spills", y.run(0, 0, 1), 2);
        Check.due("46: then it is in the way", Check.cells(y, 0, 0), "!,,3;9,,;,,;,,");
    }

    private static void endsOfAdding() {
        Notebookspire x = macro(WRITE, 5, MOVE, 1, ADD, 1, WRITE, 6);
        x.formula(0, 0, 1, 0, 0, 0, 0, 0);
        Check.due("46: a formula ends it", x.run(0, 0, 1), 2);
        Check.due("46: the cells", Check.cells(x, 0, 0), "5,10,;,,;,,;,,");
        x.set(0, 0, 1, false, 1000);
        Check.due("46: above 1000", x.run(0, 0, 1), 2);
        Check.due("46: it stays", x.value(0, 0, 1), 1000);
        x.set(0, 0, 1, false, 999);
        Check.due("46: 1000", x.run(0, 0, 1), 4);
        anew(x, MOVE, 1, ADD, -99, WRITE, 0);
        x.set(0, 0, 1, false, -902);
        Check.due("46: below -1000", x.run(0, 0, 1), 1);
        Check.due("46: it stays", x.value(0, 0, 1), -902);
        x.set(0, 0, 1, false, -901);
        anew(x, MOVE, 1, ADD, -99);
        Check.due("46: -1000", x.run(0, 0, 1), 2);
        Check.due("46: -1000", x.value(0, 0, 1), -1000);
    }

    private static void loops() {
        Notebookspire x = macro(COUNT, 3, ADD, 1, BACK, 1);
        Check.due("46: three times back", x.run(0, 0, 1), 9);
        Check.due("46: four times added", x.value(0, 0, 0), 4);
        anew(x, ADD, 1, BACK, 1);
        Check.due("46: the count is 0 at first", x.run(0, 0, 1), 2);
        anew(x, COUNT, 2, BACK, 0, ADD, 1);
        x.set(0, 0, 0, true, 0);
        Check.due("46: back to itself", x.run(0, 0, 1), 5);
        Check.due("46: then on", x.value(0, 0, 0), 1);
        anew(x, ADD, 1, BACK, 9);
        x.set(0, 0, 0, true, 0);
        Check.due("46: no count", x.run(0, 0, 1), 2);
        anew(x, ADD, 1, COUNT, 1, ADD, 10, BACK, 2);
        x.set(0, 0, 0, true, 0);
        Check.due("46: a count anew each time", x.run(0, 0, 1), 30);
        anew(x, COUNT, 2, ADD, 1, MOVE, 1, BACK, 9);
        for (int i = 0; i < 12; i++) {
            x.set(0, 0, i, true, 0);
        }
        Check.due("46: with the first one", x.run(0, 0, 1), 30);
        Check.due("46: the count again by it", Check.cells(x, 0, 0), "1,1,1;1,1,1;1,1,;,,");
        anew(x, ADD, 1, BACK, 0, COUNT, 1, BACK, 3);
        x.set(0, 0, 0, true, 0);
        Check.due("46: on behind a BACK with 0", x.run(0, 0, 1), 30);
    }

    private static void steps() {
        Notebookspire x = macro(COUNT, 9, ADD, 1, ADD, 1, ADD, 1, BACK, 3);
        Check.due("46: 30 steps", x.run(0, 0, 1), 30);
        Check.due("46: no more", x.value(0, 0, 0), 22);
        anew(x, WRITE, 0, COUNT, 7, ADD, 1, ADD, 1, ADD, 1, BACK, 3);
        Check.due("46: 30 steps again", x.run(0, 0, 1), 30);
        Check.due("46: the 30th is done", x.value(0, 0, 0), 21);
        anew(x, COUNT, 6, ADD, 1, ADD, 1, ADD, 1, BACK, 3, ADD, 1);
        x.set(0, 0, 0, true, 0);
        Check.due("46: 30 lines in all", x.run(0, 0, 1), 30);
        Check.due("46: the last one too", x.value(0, 0, 0), 22);
    }

    private static void typed() {
        Notebookspire x = macro(TYPE, 0, TYPE, 25);
        Check.write(x, 0, 1, "H");
        x.comment(0, 1, 0, 0, -1);
        x.put(1, 1, 0, 23);
        Check.due("46: sends ahead", x.run(1, 0, 1), 2);
        Check.due("46: behind the row", Check.row(x, 1), "Hxaz");
        Check.due("46: by edits", x.log(1), 4);
        Check.due("46: by the log", Check.rowByLog(x, 1), "Hxaz");
        Check.due("46: all seen", Check.view(x, 1, 1), "Hxaz");
        Check.due("46: of the person", x.undo(1, 1), true);
        Check.due("46: undone", Check.row(x, 1), "Hxa");
        x.put(1, 1, 0, 23);
        anew(x, WRITE, 3);
        x.run(1, 0, 1);
        Check.due("46: without TYPE nothing is sent", Check.row(x, 1), "Hxa");
    }

    private static void fullRows() {
        Notebookspire x = macro(WRITE, 7, TYPE, 1, TYPE, 2, WRITE, 8);
        Check.write(x, 0, 1, "abcdefghijklmnopqrstuvwxyzabcdefghijklm");
        Check.due("46: 40 tokens end it", x.run(0, 0, 1), 2);
        Check.due("46: 40 tokens", x.length(1), 40);
        Check.due("46: what was done stays", x.value(0, 0, 0), 7);
        x.send(1, 1);
        x.out(1, 1, 0);
        Check.due("46: room by sending", x.run(1, 0, 1), 2);
        x.send(0, 1);
        x.out(0, 1, 0);
        x.put(0, 1, 0, 25);
        Check.due("46: no room by sending", x.run(0, 0, 1), 1);
        Check.due("46: it is sent all the same", x.token(1, 0), 25);
        Check.due("46: nothing more", x.length(1), 40);
    }

    private static void longLogs() {
        Notebookspire x = macro(WRITE, 7, TYPE, 1, TYPE, 2);
        while (x.log(1) < 298) {
            x.put(0, 1, 0, 1);
            x.out(0, 1, 0);
            x.send(0, 1);
        }
        x.put(0, 1, 0, 5);
        x.set(0, 0, 0, false, 6);
        Check.state("46: 301 edits", x, () -> x.run(0, 0, 1));
        Check.due("46: the cells are as they were", x.valueAnew(0, 0, 0), 6);
        Check.due("46: the own edits too", Check.view(x, 0, 1), "f");
        Check.due("46: 300 edits", x.run(1, 0, 1), 3);
        Check.due("46: 300 edits", x.log(1), 300);
        Check.state("46: own edits of a full log", x, () -> x.run(0, 0, 1));
        anew(x, WRITE, 9, TYPE, 3);
        Check.state("46: a full log", x, () -> x.run(1, 0, 1));
        anew(x, WRITE, 9);
        Check.due("46: without TYPE", x.run(0, 0, 1), 1);
    }

    private static void wrongRuns() {
        Notebookspire x = macro(WRITE, 7, TYPE, 1);
        x.make(0, Notebookspire.DECK);
        for (int bad : Check.outside(0, 3)) {
            Check.index("46: person " + bad, x, () -> x.run(bad, 0, 1));
        }
        for (int bad : new int[] {-1, 1, 2, 3, Integer.MIN_VALUE, Integer.MAX_VALUE}) {
            Check.index("46: SHEET " + bad, x, () -> x.run(0, bad, 1));
            Check.index("46: SHEET ahead of right " + bad, x, () -> x.run(3, bad, 1));
            if (bad != 1) {
                Check.index("46: TEXT " + bad, x, () -> x.run(0, 0, bad));
            }
        }
        Check.index("46: TEXT 0", x, () -> x.run(0, 0, 0));
        x.give(0, 0, 2, 3);
        x.give(0, 1, 2, 2);
        Check.right("46: NOTE to the TEXT is not enough", x, () -> x.run(2, 0, 1));
        x.give(0, 0, 2, 2);
        x.give(0, 1, 2, 3);
        Check.right("46: NOTE to the SHEET is not enough", x, () -> x.run(2, 0, 1));
        x.wipe();
        Check.right("46: nor without lines", x, () -> x.run(2, 0, 1));
    }
}
