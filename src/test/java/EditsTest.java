/** Promises 11 to 17: put, out, see, send, undo, view and viewAt. */
public final class EditsTest {
    public static void main(String[] args) {
        puts();
        wrongPuts();
        fullViews();
        outs();
        wrongOuts();
        turned();
        turnedInARow();
        sees();
        sends();
        sendsToAFullRow();
        longLogs();
        undoes();
        undoesBehindOthers();
        undoesToAFullRow();
        wrongUndoes();
        views();
        Check.end("EditsTest");
    }

    /** A TEXT of the person 0, to which all have EDIT, with a row that all have seen. */
    private static Notebookspire text(String row) {
        Notebookspire x = new Notebookspire();
        x.make(0, Notebookspire.TEXT);
        for (int i = 1; i < 4; i++) {
            x.give(0, 0, i, 3);
        }
        Check.write(x, 0, 0, row);
        for (int i = 1; i < 4; i++) {
            x.send(i, 0);
        }
        return x;
    }

    private static String forty(String end) {
        return "abcdefghijklmnopqrstuvwxyzabcdefghijklmnop".substring(0, 40 - end.length()) + end;
    }

    private static void is(String what, Notebookspire x, String want) {
        Check.due(what, Check.row(x, 0), want);
        Check.due(what + ", by the log", Check.rowByLog(x, 0), want);
    }

    private static void puts() {
        Notebookspire x = text("");
        Check.due("11: one", x.put(0, 0, 0, 1), 1);
        Check.due("11: ahead", x.put(0, 0, 0, 0), 2);
        Check.due("11: behind", x.put(0, 0, 2, 25), 3);
        Check.due("11: between", x.put(0, 0, 1, 103), 4);
        Check.due("11: on the view", Check.view(x, 0, 0), "aRbz");
        Check.due("11: not sent", x.length(0), 0);
        Check.due("11: another one's", x.put(1, 0, 0, 100), 1);
        Check.due("11: another one's view", Check.view(x, 1, 0), "H");
        x.send(0, 0);
        Check.due("11: anew behind sending", x.put(0, 0, 4, 102), 1);
        x.show(0, 0, 1, 2);
        Check.due("11: a FIELD", x.put(0, 0, 5, 200), 2);
        Check.due("11: SUB", x.put(0, 0, 6, 101), 3);
        Check.due("11: all of them", Check.view(x, 0, 0), "aRbzB0S");
    }

    private static void wrongPuts() {
        Notebookspire x = text("ab");
        x.make(0, Notebookspire.SHEET);
        x.give(0, 0, 3, 2);
        x.put(0, 0, 2, 2);
        for (int bad : Check.outside(0, 3)) {
            Check.index("11: person " + bad, x, () -> x.put(bad, 0, 0, 0));
            Check.index("11: place " + bad, x, () -> x.put(0, 0, bad, 0));
            Check.index("11: place ahead of token " + bad, x, () -> x.put(3, 0, bad, -1));
        }
        Check.index("11: behind another one's view", x, () -> x.put(1, 0, 3, 0));
        for (int bad : Check.outside(0, 0)) {
            Check.index("11: TEXT " + bad, x, () -> x.put(0, bad, 0, 0));
        }
        for (int bad : new int[] {-1, 26, 99, 104, 199, 200, 201, Integer.MIN_VALUE, Integer.MAX_VALUE}) {
            Check.argument("11: token " + bad, x, () -> x.put(0, 0, 0, bad));
            Check.argument("11: token ahead of right " + bad, x, () -> x.put(3, 0, 0, bad));
        }
        x.show(0, 0, 0, 0);
        for (int bad : new int[] {199, 201, 209, 210}) {
            Check.argument("11: no such show " + bad, x, () -> x.put(0, 0, 0, bad));
        }
        Check.right("11: NOTE is not enough", x, () -> x.put(3, 0, 0, 0));
        for (int i = 0; i < 5; i++) {
            x.put(0, 0, 0, 5);
        }
        Check.state("11: a seventh own edit", x, () -> x.put(0, 0, 0, 0));
        Check.argument("11: token ahead of it", x, () -> x.put(0, 0, 0, 26));
        x.give(0, 0, 1, 3);
        for (int i = 0; i < 6; i++) {
            x.put(1, 0, 0, 7);
        }
        x.give(0, 0, 1, 2);
        Check.right("11: right ahead of a seventh", x, () -> x.put(1, 0, 0, 0));
    }

    private static void fullViews() {
        Notebookspire x = text(forty(""));
        Check.state("11: 40 tokens", x, () -> x.put(1, 0, 40, 0));
        x.out(1, 0, 39);
        Check.due("11: 39 tokens", x.put(1, 0, 0, 0), 2);
        Check.state("11: 40 again", x, () -> x.put(1, 0, 0, 0));
        Notebookspire y = text(forty("").substring(0, 38));
        y.put(1, 0, 0, 0);
        y.put(1, 0, 0, 1);
        y.put(0, 0, 38, 2);
        y.put(0, 0, 39, 3);
        y.send(0, 0);
        y.see(1, 0);
        y.see(1, 0);
        Check.due("16: above 40 by seeing", y.view(1, 0), 42);
        Check.due("17: the last of these", y.viewAt(1, 0, 41), 3);
        Check.state("11: above 40", y, () -> y.put(1, 0, 0, 0));
        y.out(1, 0, 41);
        Check.state("11: above 40 still", y, () -> y.put(1, 0, 0, 0));
    }

    private static void outs() {
        Notebookspire x = text("abc");
        Check.due("12: one", x.out(0, 0, 2), 1);
        Check.due("12: two", x.out(0, 0, 0), 2);
        Check.due("12: on the view", Check.view(x, 0, 0), "b");
        Check.due("12: not sent", Check.row(x, 0), "abc");
        x.put(0, 0, 0, 9);
        Check.due("12: what one put in oneself", x.out(0, 0, 0), 4);
        x.send(0, 0);
        is("12: sent", x, "b");
    }

    private static void wrongOuts() {
        Notebookspire x = text("ab");
        x.make(0, Notebookspire.DECK);
        x.give(0, 0, 3, 2);
        x.out(0, 0, 1);
        for (int bad : Check.outside(0, 3)) {
            Check.index("12: person " + bad, x, () -> x.out(bad, 0, 0));
        }
        for (int bad : Check.outside(0, 0)) {
            Check.index("12: place " + bad, x, () -> x.out(0, 0, bad));
            Check.index("12: TEXT " + bad, x, () -> x.out(0, bad, 0));
        }
        Check.index("12: place ahead of right", x, () -> x.out(3, 0, 2));
        Check.right("12: NOTE is not enough", x, () -> x.out(3, 0, 1));
        for (int i = 0; i < 5; i++) {
            x.put(0, 0, 0, 4);
        }
        Check.state("12: a seventh own edit", x, () -> x.out(0, 0, 0));
        Check.index("12: place ahead of it", x, () -> x.out(0, 0, 6));
        x.give(0, 0, 3, 3);
        for (int i = 0; i < 6; i++) {
            x.put(3, 0, 0, 4);
        }
        x.give(0, 0, 3, 0);
        Check.right("12: right ahead of a seventh", x, () -> x.out(3, 0, 0));
    }

    private static void turn(int person, String own, int by, String other, String want) {
        Notebookspire x = text("abcd");
        edit(x, person, own, 'x');
        edit(x, by, other, 'y');
        x.send(by, 0);
        String what = "13: " + own + " of " + person + " by " + other + " of " + by;
        Check.due(what + ": none left", x.see(person, 0), 0);
        Check.due(what, Check.view(x, person, 0), want);
        x.send(person, 0);
        is(what + ": sent", x, want);
        x.send(by, 0);
        Check.due(what + ": the other one sees the same", Check.view(x, by, 0), want);
    }

    private static void edit(Notebookspire x, int person, String edit, char put) {
        int place = edit.charAt(1) - '0';
        if (edit.charAt(0) == '+') {
            x.put(person, 0, place, put - 'a');
        } else {
            x.out(person, 0, place);
        }
    }

    private static void turned() {
        turn(1, "+2", 0, "+1", "aybxcd");
        turn(1, "+1", 0, "+2", "axbycd");
        turn(1, "+2", 0, "+2", "abyxcd");
        turn(0, "+2", 1, "+2", "abxycd");
        turn(2, "+0", 3, "+0", "xyabcd");
        turn(3, "+4", 2, "+4", "abcdyx");
        turn(0, "-2", 1, "+2", "abyd");
        turn(1, "-2", 0, "+2", "abyd");
        turn(1, "-2", 0, "+1", "aybd");
        turn(1, "-1", 0, "+2", "aycd");
        turn(1, "+2", 0, "-1", "axcd");
        turn(1, "+2", 0, "-2", "abxd");
        turn(0, "+2", 1, "-2", "abxd");
        turn(1, "+1", 0, "-2", "axbd");
        turn(1, "-2", 0, "-1", "ad");
        turn(1, "-1", 0, "-2", "ad");
        turn(1, "-2", 0, "-2", "abd");
        turn(0, "-0", 1, "-0", "bcd");
    }

    private static void turnedInARow() {
        Notebookspire x = text("abc");
        x.out(1, 0, 1);
        x.put(1, 0, 1, 'x' - 'a');
        x.out(1, 0, 2);
        x.out(0, 0, 1);
        x.out(0, 0, 1);
        x.put(0, 0, 1, 'y' - 'a');
        x.put(0, 0, 0, 'z' - 'a');
        x.send(0, 0);
        is("14: those of the first one", x, "zay");
        Check.due("13: three are left", x.see(1, 0), 3);
        Check.due("13: one is seen", Check.view(x, 1, 0), "ax");
        Check.due("13: two are left", x.see(1, 0), 2);
        Check.due("13: the void ones stay void", Check.view(x, 1, 0), "ax");
        Check.due("13: one is left", x.see(1, 0), 1);
        Check.due("13: what a lower one put in is ahead", Check.view(x, 1, 0), "ayx");
        Check.due("13: none is left", x.see(1, 0), 0);
        Check.due("13: all are seen", Check.view(x, 1, 0), "zayx");
        Check.due("13: nothing more to see", x.see(1, 0), 0);
        Check.due("14: void ones come to the log too", x.send(1, 0), 10);
        is("14: behind both", x, "zayx");
        x.send(0, 0);
        Check.due("14: all are seen by sending", Check.view(x, 0, 0), "zayx");
    }

    private static void sees() {
        Notebookspire x = new Notebookspire();
        x.make(0, Notebookspire.TEXT);
        x.make(0, Notebookspire.SHEET);
        Check.due("13: an empty log", x.see(0, 0), 0);
        Check.write(x, 0, 0, "abc");
        Check.right("13: no right", x, () -> x.see(1, 0));
        x.give(0, 0, 1, 1);
        Check.due("16: none seen at first", x.view(1, 0), 0);
        Check.due("13: SEE is enough", x.see(1, 0), 2);
        Check.due("13: from the first edit on", Check.view(x, 1, 0), "a");
        Check.due("13: the next", x.see(1, 0), 1);
        Check.due("13: both", Check.view(x, 1, 0), "ab");
        for (int bad : Check.outside(0, 3)) {
            Check.index("13: person " + bad, x, () -> x.see(bad, 0));
        }
        for (int bad : Check.outside(0, 0)) {
            Check.index("13: TEXT " + bad, x, () -> x.see(0, bad));
        }
        x.give(0, 0, 1, 3);
        x.put(1, 0, 2, 23);
        x.give(0, 0, 1, 1);
        Check.due("13: own edits without EDIT", x.see(1, 0), 0);
        Check.due("16: stay", Check.view(x, 1, 0), "abcx");
    }

    private static void sends() {
        Notebookspire x = new Notebookspire();
        x.make(0, Notebookspire.TEXT);
        x.make(0, Notebookspire.SHEET);
        Check.due("14: nothing", x.send(0, 0), 0);
        x.put(0, 0, 0, 0);
        x.put(0, 0, 1, 1);
        Check.due("14: two", x.send(0, 0), 2);
        Check.due("14: nothing more", x.send(0, 0), 2);
        Check.due("21: the log", x.log(0), 2);
        is("14: the row", x, "ab");
        x.give(0, 0, 1, 2);
        Check.right("14: NOTE is not enough", x, () -> x.send(1, 0));
        x.give(0, 0, 1, 3);
        Check.due("14: sees all", x.send(1, 0), 2);
        Check.due("14: all seen", Check.view(x, 1, 0), "ab");
        for (int bad : Check.outside(0, 3)) {
            Check.index("14: person " + bad, x, () -> x.send(bad, 0));
        }
        for (int bad : Check.outside(0, 0)) {
            Check.index("14: TEXT " + bad, x, () -> x.send(0, bad));
        }
    }

    private static void sendsToAFullRow() {
        Notebookspire x = text(forty("").substring(0, 39));
        x.put(1, 0, 0, 23);
        x.put(0, 0, 39, 24);
        x.send(0, 0);
        Check.due("14: one too many", x.send(1, 0), 41);
        is("14: it becomes void", x, forty("").substring(0, 39) + "y");
        Check.due("14: for its person too", Check.view(x, 1, 0), forty("").substring(0, 39) + "y");
        Notebookspire y = text(forty("").substring(0, 38));
        y.put(1, 0, 0, 23);
        y.put(1, 0, 1, 25);
        y.out(1, 0, 3);
        y.out(1, 0, 1);
        y.put(1, 0, 0, 22);
        y.put(0, 0, 38, 24);
        y.send(0, 0);
        y.send(1, 0);
        is("14: own edits behind a void one are turned", y, "wxa" + forty("").substring(2, 38) + "y");
        Check.due("14: all in the log", y.log(0), 44);
        Notebookspire z = text(forty("").substring(0, 39));
        z.put(1, 0, 0, 23);
        z.out(1, 0, 39);
        z.put(0, 0, 0, 24);
        z.send(0, 0);
        z.send(1, 0);
        is("14: one behind it takes out what it meant", z, "y" + forty("").substring(0, 38));
    }

    /** A TEXT whose log has so many edits, with the row "a" or without tokens. */
    private static Notebookspire logged(int edits) {
        Notebookspire x = text("");
        while (x.log(0) < edits) {
            if (x.length(0) == 0) {
                x.put(0, 0, 0, 0);
            } else {
                x.out(0, 0, 0);
            }
            x.send(0, 0);
        }
        for (int i = 1; i < 4; i++) {
            x.send(i, 0);
        }
        return x;
    }

    private static void longLogs() {
        Notebookspire x = logged(298);
        x.put(1, 0, 0, 1);
        x.put(1, 0, 0, 2);
        x.put(1, 0, 0, 3);
        Check.state("14: 301 edits", x, () -> x.send(1, 0));
        Check.due("14: own edits stay", Check.view(x, 1, 0), "dcb");
        Check.state("15: 302 edits", x, () -> x.undo(1, 0));
        x.put(0, 0, 0, 4);
        x.put(0, 0, 1, 5);
        Check.state("15: 301 edits", x, () -> x.undo(0, 0));
        Check.due("14: 300 edits", x.send(0, 0), 300);
        Check.state("15: the log is full", x, () -> x.undo(0, 0));
        Check.due("14: nothing to send", x.send(2, 0), 300);
        Check.due("13: seen all the same", x.see(1, 0), 1);
        Check.state("14: not with own edits", x, () -> x.send(1, 0));
        is("14: the row", x, "ef");
        Notebookspire y = logged(298);
        y.put(0, 0, 0, 4);
        Check.due("15: with the undo 300", y.undo(0, 0), true);
        Check.due("15: the log", y.log(0), 300);
    }

    private static void undoes() {
        Notebookspire x = text("");
        Check.write(x, 0, 0, "abc");
        x.out(0, 0, 1);
        x.send(0, 0);
        Check.due("15: a taking out", x.undo(0, 0), true);
        is("15: the same token again", x, "abc");
        Check.due("15: no undo itself", x.undo(0, 0), true);
        is("15: c is taken back", x, "ab");
        Check.due("15: void by the taking out, though that was undone", x.undo(0, 0), false);
        is("15: b stays", x, "ab");
        Check.due("15: the last one", x.undo(0, 0), true);
        is("15: all are undone", x, "b");
        Check.due("15: all in the log", x.log(0), 8);
        Check.state("15: nothing left", x, () -> x.undo(0, 0));
        x.put(0, 0, 0, 3);
        Check.due("15: own edits count as sent", x.undo(0, 0), true);
        is("15: and are undone", x, "b");
        Check.due("15: seen", Check.view(x, 0, 0), "b");
        Check.due("15: nothing more to see", x.see(0, 0), 0);
        Check.due("15: two more in the log", x.log(0), 10);
        Check.state("15: nothing left again", x, () -> x.undo(0, 0));
        Notebookspire y = text("ab");
        y.out(0, 0, 1);
        y.out(0, 0, 0);
        y.undo(0, 0);
        is("15: the latest first", y, "a");
        y.undo(0, 0);
        is("15: by the same person, behind it", y, "ab");
        Notebookspire z = text("");
        z.make(0, Notebookspire.TEXT);
        Check.write(z, 0, 1, "x");
        Check.state("15: that of another TEXT is not", z, () -> z.undo(0, 0));
        Check.due("15: that of this one is", z.undo(0, 1), true);
    }

    private static void undoesBehindOthers() {
        Notebookspire x = text("a");
        x.out(1, 0, 0);
        x.send(1, 0);
        x.send(0, 0);
        x.put(0, 0, 0, 23);
        x.send(0, 0);
        Check.due("15: sees all first", x.undo(1, 0), true);
        is("15: a lower one's is ahead", x, "xa");
        Notebookspire y = text("a");
        y.out(1, 0, 0);
        y.send(1, 0);
        y.send(2, 0);
        y.put(2, 0, 0, 23);
        y.send(2, 0);
        y.undo(1, 0);
        is("15: a greater one's is behind", y, "ax");
        Notebookspire z = text("abc");
        Check.write(z, 1, 0, "d");
        z.send(0, 0);
        z.out(0, 0, 3);
        z.put(0, 0, 0, 25);
        z.send(0, 0);
        Check.due("15: what another one took out", z.undo(1, 0), false);
        is("15: stays out", z, "zabc");
        Check.due("15: a void undo comes to the log", z.log(0), 7);
        Check.state("15: it is undone now", z, () -> z.undo(1, 0));
        Check.state("15: nothing of another one's", z, () -> z.undo(2, 0));
        Notebookspire w = text("abc");
        w.out(0, 0, 1);
        w.out(1, 0, 1);
        w.put(1, 0, 0, 7);
        w.send(1, 0);
        w.send(0, 0);
        Check.due("15: a void one is not undone", w.undo(0, 0), true);
        is("15: but the one ahead of it", w, "ha");
        Check.due("15: moved by others", w.undo(1, 0), true);
        is("15: h is out", w, "a");
        Check.due("15: then its taking out", w.undo(1, 0), true);
        is("15: b is in", w, "ab");
    }

    private static void undoesToAFullRow() {
        Notebookspire x = text(forty(""));
        x.out(1, 0, 0);
        x.send(1, 0);
        x.send(2, 0);
        x.put(2, 0, 39, 25);
        x.send(2, 0);
        String row = Check.row(x, 0);
        Check.due("15: no room", x.undo(1, 0), false);
        is("15: the row stays", x, row);
        Check.due("15: void, in the log", x.log(0), 43);
        Check.state("15: it is undone all the same", x, () -> x.undo(1, 0));
        Notebookspire y = text(forty("").substring(0, 39));
        y.put(1, 0, 0, 25);
        y.put(2, 0, 0, 24);
        y.send(2, 0);
        Check.state("15: what becomes void when it is sent", y, () -> y.undo(1, 0));
        Check.due("15: is not sent then", Check.view(y, 1, 0), "z" + forty("").substring(0, 39));
    }

    private static void wrongUndoes() {
        Notebookspire x = text("a");
        x.make(0, Notebookspire.SHEET);
        x.give(0, 0, 1, 2);
        for (int bad : Check.outside(0, 3)) {
            Check.index("15: person " + bad, x, () -> x.undo(bad, 0));
        }
        for (int bad : Check.outside(0, 0)) {
            Check.index("15: TEXT " + bad, x, () -> x.undo(0, bad));
        }
        Check.right("15: NOTE is not enough", x, () -> x.undo(1, 0));
        Check.state("15: nothing", x, () -> x.undo(2, 0));
    }

    private static void views() {
        Notebookspire x = text("abc");
        x.make(0, Notebookspire.SHEET);
        x.give(0, 0, 1, 1);
        x.give(0, 0, 2, 0);
        x.out(0, 0, 0);
        Check.due("16: one's own", x.view(0, 0), 2);
        Check.due("16: another one's", x.view(1, 0), 3);
        Check.due("17: one's own", x.viewAt(0, 0, 0), 1);
        Check.due("17: another one's", x.viewAt(1, 0, 2), 2);
        Check.right("16: no right", x, () -> x.view(2, 0));
        Check.right("17: no right", x, () -> x.viewAt(2, 0, 0));
        Check.index("17: place ahead of right", x, () -> x.viewAt(2, 0, 3));
        for (int bad : Check.outside(0, 3)) {
            Check.index("16: person " + bad, x, () -> x.view(bad, 0));
            Check.index("17: person " + bad, x, () -> x.viewAt(bad, 0, 0));
        }
        for (int bad : Check.outside(0, 0)) {
            Check.index("16: TEXT " + bad, x, () -> x.view(0, bad));
            Check.index("17: TEXT " + bad, x, () -> x.viewAt(0, bad, 0));
        }
        for (int bad : Check.outside(0, 1)) {
            Check.index("17: place " + bad, x, () -> x.viewAt(0, 0, bad));
        }
        for (int bad : Check.outside(0, 2)) {
            Check.index("17: place for another one " + bad, x, () -> x.viewAt(1, 0, bad));
        }
    }
}
