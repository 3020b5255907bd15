/** Promises 26 to 29: comment, about, close and take. */
public final class CommentsTest {
    public static void main(String[] args) {
        made();
        wrongComments();
        moved();
        closed();
        taken();
        takenBehindSending();
        wrongTakes();
        longLogs();
        Check.end("CommentsTest");
    }

    private static Notebookspire text(String row) {
        Notebookspire x = new Notebookspire();
        x.make(0, Notebookspire.TEXT);
        x.give(0, 0, 1, 3);
        x.give(0, 0, 2, 2);
        Check.write(x, 0, 0, row);
        return x;
    }

    private static void put(Notebookspire x, int person, int place) {
        x.send(person, 0);
        x.put(person, 0, place, 25);
        x.send(person, 0);
    }

    private static void out(Notebookspire x, int person, int place) {
        x.send(person, 0);
        x.out(person, 0, place);
        x.send(person, 0);
    }

    private static void made() {
        Notebookspire x = text("abcHe");
        Check.due("26: the first number", x.comment(2, 0, 0, 0, -1), 0);
        Check.due("26: the next", x.comment(0, 0, 1, 4, 25), 1);
        Check.due("27: one token", x.about(0), 1);
        Check.due("27: four", x.about(1), 104);
        Check.due("26: all tokens", x.comment(1, 0, 0, 4, 0), 2);
        Check.due("27: all tokens", x.about(2), 5);
        for (int i = 3; i < 12; i++) {
            Check.due("26: the same ones again", x.comment(2, 0, 4, 4, 3), i);
        }
        Check.due("27: the last one", x.about(11), 401);
        Check.state("26: a thirteenth", x, () -> x.comment(0, 0, 0, 0, -1));
        x.close(0, 11);
        Check.state("26: closed ones count", x, () -> x.comment(0, 0, 0, 0, -1));
        x.give(0, 0, 2, 1);
        Check.right("26: right ahead of a thirteenth", x, () -> x.comment(2, 0, 0, 0, -1));
        for (int bad : Check.outside(0, 11)) {
            Check.index("27: comment " + bad, x, () -> x.about(bad));
        }
    }

    private static void wrongComments() {
        Notebookspire x = text("abc");
        x.make(0, Notebookspire.SHEET);
        for (int bad : Check.outside(0, 3)) {
            Check.index("26: person " + bad, x, () -> x.comment(bad, 0, 0, 0, -1));
        }
        for (int bad : Check.outside(0, 0)) {
            Check.index("26: TEXT " + bad, x, () -> x.comment(0, bad, 0, 0, -1));
        }
        for (int bad : Check.outside(0, 2)) {
            Check.index("26: first " + bad, x, () -> x.comment(0, 0, bad, 2, -1));
            Check.index("26: last " + bad, x, () -> x.comment(0, 0, 0, bad, -1));
            Check.index("26: last ahead of suggested " + bad, x, () -> x.comment(3, 0, 0, bad, 26));
        }
        Check.index("26: last below first", x, () -> x.comment(0, 0, 2, 1, -1));
        for (int bad : Check.outside(-1, 25)) {
            Check.argument("26: suggested " + bad, x, () -> x.comment(0, 0, 0, 0, bad));
            Check.argument("26: suggested ahead of right " + bad, x, () -> x.comment(3, 0, 0, 0, bad));
        }
        x.give(0, 0, 3, 1);
        Check.right("26: SEE is not enough", x, () -> x.comment(3, 0, 0, 0, -1));
        Check.index("27: none yet", x, () -> x.about(0));
        Check.index("28: none yet", x, () -> x.close(0, 0));
        Check.index("29: none yet", x, () -> x.take(0, 0));
    }

    private static void moved() {
        Notebookspire x = text("abcdef");
        x.comment(0, 0, 2, 3, -1);
        put(x, 0, 0);
        Check.due("27: put in ahead", x.about(0), 302);
        put(x, 1, 3);
        Check.due("27: put in at its place", x.about(0), 402);
        put(x, 0, 5);
        Check.due("27: put in at the last token", x.about(0), 403);
        put(x, 0, 5);
        Check.due("27: put in behind the first", x.about(0), 404);
        put(x, 0, 8);
        Check.due("27: put in behind the last", x.about(0), 404);
        out(x, 1, 8);
        Check.due("27: taken out behind", x.about(0), 404);
        out(x, 0, 0);
        Check.due("27: taken out ahead", x.about(0), 304);
        out(x, 0, 3);
        Check.due("27: the first taken out", x.about(0), 303);
        out(x, 0, 5);
        Check.due("27: the last taken out", x.about(0), 302);
        out(x, 0, 2);
        Check.due("27: right ahead taken out", x.about(0), 202);
        out(x, 0, 2);
        Check.due("27: one left", x.about(0), 201);
        x.out(0, 0, 2);
        Check.due("27: own edits count for nothing", x.about(0), 201);
        x.send(0, 0);
        Check.due("27: closed, when none is left", x.about(0), -1);
        Check.due("28: so it is not open", x.close(0, 0), false);
        x.undo(0, 0);
        Check.due("27: not open again", x.about(0), -1);
        Notebookspire y = text("ab");
        y.make(0, Notebookspire.TEXT);
        y.comment(0, 0, 1, 1, -1);
        Check.write(y, 0, 1, "xyz");
        Check.due("27: by edits of its own TEXT alone", y.about(0), 101);
        y.send(1, 0);
        y.out(0, 0, 0);
        y.out(1, 0, 0);
        y.send(0, 0);
        y.send(1, 0);
        Check.due("27: void edits move nothing", y.about(0), 1);
    }

    private static void closed() {
        Notebookspire x = text("ab");
        x.comment(2, 0, 0, 1, -1);
        x.comment(0, 0, 0, 1, -1);
        x.comment(0, 0, 0, 1, -1);
        Check.right("28: NOTE is not enough", x, () -> x.close(2, 1));
        Check.right("28: no right", x, () -> x.close(3, 0));
        x.give(0, 0, 2, 0);
        Check.due("28: by its maker, without a right", x.close(2, 0), true);
        Check.due("28: again", x.close(2, 0), false);
        Check.due("27: closed", x.about(0), -1);
        Check.due("28: by one with EDIT", x.close(1, 1), true);
        Check.due("27: closed too", x.about(1), -1);
        Check.due("27: another one is open", x.about(2), 2);
        for (int bad : Check.outside(0, 3)) {
            Check.index("28: person " + bad, x, () -> x.close(bad, 0));
        }
        for (int bad : Check.outside(0, 2)) {
            Check.index("28: comment " + bad, x, () -> x.close(0, bad));
        }
    }

    private static void taken() {
        Notebookspire x = text("abcdef");
        x.comment(2, 0, 1, 3, 25);
        x.comment(2, 0, 0, 5, 24);
        x.comment(2, 0, 1, 1, 24);
        x.comment(2, 0, 4, 4, 24);
        Check.due("29: the log", x.take(1, 0), 10);
        Check.due("29: the row", Check.row(x, 0), "azef");
        Check.due("29: by the log", Check.rowByLog(x, 0), "azef");
        Check.due("29: closed", x.about(0), -1);
        Check.due("29: another one about more", x.about(1), 4);
        Check.due("29: another one about the same", x.about(2), -1);
        Check.due("29: another one behind", x.about(3), 201);
        Check.due("29: all seen", Check.view(x, 1, 0), "azef");
        Check.due("29: nothing more to see", x.see(1, 0), 0);
        Check.state("29: it is closed", x, () -> x.take(1, 0));
        x.undo(1, 0);
        Check.due("29: edits to be undone, one by one", Check.row(x, 0), "aef");
        x.undo(1, 0);
        Check.due("29: the first is taken out last", Check.row(x, 0), "abef");
        x.undo(1, 0);
        x.undo(1, 0);
        Check.due("29: all undone", Check.row(x, 0), "abcdef");
        Check.state("29: not of one with EDIT who did nothing", x, () -> x.take(1, 0));
    }

    private static void takenBehindSending() {
        Notebookspire x = text("abc");
        x.comment(0, 0, 1, 2, 25);
        x.send(1, 0);
        x.put(1, 0, 0, 8);
        x.out(0, 0, 2);
        x.put(0, 0, 0, 7);
        x.send(1, 0);
        Check.due("29: sees and sends first", x.take(0, 0), 8);
        Check.due("29: then takes", Check.row(x, 0), "hiaz");
        Notebookspire y = text("abc");
        y.comment(0, 0, 1, 1, 25);
        y.put(0, 0, 0, 7);
        y.out(0, 0, 2);
        Check.state("29: closed, when the person has sent", y, () -> y.take(0, 0));
        Check.due("29: open still", y.about(0), 101);
        Check.due("29: own edits stay", Check.view(y, 0, 0), "hac");
        Check.due("29: for another one it is open", y.take(1, 0), 5);
        Check.due("29: and taken", Check.row(y, 0), "azc");
    }

    private static void wrongTakes() {
        Notebookspire x = text("abc");
        x.comment(1, 0, 0, 1, -1);
        x.comment(2, 0, 0, 1, 3);
        x.put(0, 0, 0, 7);
        for (int bad : Check.outside(0, 3)) {
            Check.index("29: person " + bad, x, () -> x.take(bad, 1));
        }
        for (int bad : Check.outside(0, 1)) {
            Check.index("29: comment " + bad, x, () -> x.take(0, bad));
        }
        Check.right("29: its maker with NOTE", x, () -> x.take(2, 1));
        Check.right("29: right ahead of nothing suggested", x, () -> x.take(2, 0));
        Check.state("29: nothing suggested", x, () -> x.take(0, 0));
        x.close(0, 1);
        Check.state("29: closed", x, () -> x.take(0, 1));
        Check.right("29: right ahead of closed", x, () -> x.take(3, 1));
    }

    private static void longLogs() {
        Notebookspire x = text("ab");
        x.comment(0, 0, 0, 1, 25);
        while (x.log(0) < 296) {
            x.put(0, 0, 2, 3);
            x.out(0, 0, 2);
            x.send(0, 0);
        }
        x.put(0, 0, 1, 4);
        Check.state("29: 301 edits, with what is sent", x, () -> x.take(0, 0));
        x.out(0, 0, 1);
        Check.state("29: 301 edits", x, () -> x.take(0, 0));
        Check.due("29: 299 edits", x.take(1, 0), 299);
        Notebookspire y = text("ab");
        y.comment(0, 0, 0, 1, 25);
        while (y.log(0) < 296) {
            y.put(0, 0, 2, 3);
            y.out(0, 0, 2);
            y.send(0, 0);
        }
        y.put(0, 0, 2, 4);
        Check.due("29: 300 edits", y.take(0, 0), 300);
        Check.due("29: the row", Check.row(y, 0), "ze");
    }
}
