/** Promises 38 to 41: flat, flatAt, takeIn and change. */
public final class FlatTest {
    public static void main(String[] args) {
        sheets();
        texts();
        decks();
        wrongFlats();
        takenIn();
        takenInFull();
        takenInAsSeen();
        wrongTakenIn();
        longTakenIn();
        changed();
        changedInAll();
        wrongChanges();
        longChanges();
        Check.end("FlatTest");
    }

    /** A SHEET, a TEXT and a DECK of the person 0; 1 has SEE to all. */
    private static Notebookspire parts(String row) {
        Notebookspire x = new Notebookspire();
        for (int i = 0; i < 3; i++) {
            x.make(0, i);
            x.give(0, i, 1, 1);
        }
        Check.write(x, 0, 1, row);
        return x;
    }

    private static void sheets() {
        Notebookspire x = parts("");
        Check.due("38: a blank SHEET", Check.flat(x, 0, 0, 0), ",,;,,;,,;,,");
        x.set(0, 0, 0, false, 10);
        x.set(0, 0, 2, false, -7);
        x.formula(0, 0, 4, 4, 0, 0, 0, 0);
        x.set(0, 0, 7, false, 2);
        x.formula(0, 0, 8, 4, 0, 7, 0, 0);
        x.formula(0, 0, 9, 3, 0, 2, 0, 2);
        Check.due("38: a SHEET", Check.flat(x, 1, 0, 3), "10,,-7;,!,;,2,1;-7,,2");
        Notebookspire y = parts("");
        y.set(0, 0, 0, false, -1000);
        y.set(0, 0, 1, false, 1000);
        for (int i = 2; i < 12; i++) {
            y.formula(0, 0, i, 2, 0, 0, 0, 1);
        }
        Check.due("38: more than 80", y.flat(0, 0, 0), 5 + 4 + 10 * 8 + 11);
        Check.due("39: behind the 80th", y.flatAt(0, 0, 0, 99), '0');
    }

    private static void texts() {
        Notebookspire x = parts("aHbSRcHSB");
        Check.due("38: a TEXT", Check.flat(x, 1, 1, 0), "a.100 b.101 .1 c.200 .201 .0 ");
        x.set(0, 0, 0, false, 3);
        x.show(0, 0, 0, 0);
        x.show(0, 1, 1, 2);
        x.put(0, 1, 0, 200);
        x.put(0, 1, 4, 201);
        x.out(0, 1, 3);
        Check.due("38: the row, not the view", Check.flat(x, 0, 1, 0), "a.100 b.101 .1 c.200 .201 .0 ");
        x.send(0, 1);
        Check.due("38: FIELDs", Check.flat(x, 0, 1, 0), "<3>a.100 </>.101 .1 c.200 .201 .0 ");
        x.put(0, 1, 3, 201);
        x.put(0, 1, 4, 200);
        x.send(0, 1);
        x.show(0, 1, 2, 4);
        x.put(0, 1, 0, 202);
        x.send(0, 1);
        Check.due("38: FIELDs within FIELDs", Check.flat(x, 0, 1, 0), "</@@><3>a.100 </><3></>.101 .1 c.200 .201 .0 ");
        Check.due("35: but in a show of its own", Check.shown(x, 0, 2), "</</><3>>");
        x.give(0, 0, 1, 0);
        Check.due("38: without the right to a show's part", Check.flat(x, 1, 1, 0), "</@@>#a.100 </>#</>.101 .1 c.200 .201 .0 ");
    }

    private static void decks() {
        Notebookspire x = parts("abc");
        x.show(0, 1, 0, 0);
        x.show(0, 1, 1, 2);
        x.put(0, 1, 2, 200);
        x.send(0, 1);
        x.slide(0, 2, 0);
        x.slide(0, 2, 1);
        x.box(0, 2, 0, 0, 1, 1);
        x.box(0, 2, 0, 1, 0, 2);
        x.box(0, 2, -1, 2, 0, 3);
        x.box(0, 2, 1, 2, 1, 0);
        Check.due("38: the step 0", Check.flat(x, 1, 2, 0), "==<b<a>c>");
        Check.due("38: the step 1", Check.flat(x, 1, 2, 1), "=<b<a>c>=<b<a>c>");
        Check.due("38: the step 2", Check.flat(x, 1, 2, 2), "=<b<a>c><a>=<b<a>c>");
        Check.due("38: the step 3", Check.flat(x, 1, 2, 3), "=<b<a>c><a><a>=<b<a>c>");
        x.give(0, 1, 1, 0);
        Check.due("38: without the right to the shows' part", Check.flat(x, 1, 2, 3), "=###=#");
    }

    private static void wrongFlats() {
        Notebookspire x = parts("abc");
        for (int bad : Check.outside(0, 3)) {
            Check.index("38: person " + bad, x, () -> x.flat(bad, 0, 0));
            Check.index("39: person " + bad, x, () -> x.flatAt(bad, 0, 0, 0));
            for (int part = 0; part < 3; part++) {
                int p = part;
                Check.argument("38: step " + bad, x, () -> x.flat(0, p, bad));
                Check.argument("39: step " + bad, x, () -> x.flatAt(0, p, bad, 0));
                Check.argument("38: step ahead of right " + bad, x, () -> x.flat(2, p, bad));
                Check.argument("39: step ahead of right and index " + bad, x, () -> x.flatAt(2, p, bad, 99));
            }
        }
        for (int bad : Check.outside(0, 2)) {
            Check.index("38: part " + bad, x, () -> x.flat(0, bad, 0));
            Check.index("38: part ahead of step " + bad, x, () -> x.flat(0, bad, 4));
            Check.index("39: part " + bad, x, () -> x.flatAt(0, bad, 0, 0));
            Check.index("39: part ahead of step " + bad, x, () -> x.flatAt(0, bad, 4, 0));
            Check.index("39: index " + bad, x, () -> x.flatAt(0, 1, 0, bad));
            Check.right("39: right ahead of index " + bad, x, () -> x.flatAt(2, 1, 0, bad));
        }
        Check.right("38: no right", x, () -> x.flat(2, 0, 0));
        Check.index("39: nothing in it", x, () -> x.flatAt(0, 2, 0, 0));
        Check.due("39: the last one", x.flatAt(1, 1, 3, 2), 'c');
    }

    private static void takenIn() {
        Notebookspire x = parts("aHbS");
        x.make(0, Notebookspire.TEXT);
        Check.write(x, 0, 3, "xy");
        Check.due("40: a TEXT", x.takeIn(0, 1, 3), 4);
        Check.due("40: its BREAKs become BODYs", Check.row(x, 3), "aBbB");
        Check.due("40: the log", x.log(3), 8);
        Check.due("40: by the log", Check.rowByLog(x, 3), "aBbB");
        Check.due("40: all seen", Check.view(x, 0, 3), "aBbB");
        for (int i = 0; i < 4; i++) {
            x.undo(0, 3);
        }
        x.undo(0, 3);
        Check.due("40: the first is taken out last", Check.row(x, 3), "x");
        x.set(0, 0, 0, false, -5);
        Check.due("40: a SHEET", x.takeIn(0, 0, 3), 3);
        Check.due("40: its rows", Check.row(x, 3), "BBB");
        Check.due("40: into itself", x.takeIn(0, 1, 1), 4);
        Check.due("40: itself", Check.row(x, 1), "aBbB");
        x.show(0, 1, 0, 2);
        x.slide(0, 2, 0);
        x.slide(0, 2, 0);
        x.box(0, 2, 0, 0, 0, 3);
        Check.due("40: a DECK, with the step 3", x.takeIn(0, 2, 3), 4);
        Check.due("40: its slides", Check.row(x, 3), "BabB");
        x.drop(0, 2, 0);
        x.drop(0, 2, 0);
        Check.due("40: nothing", x.takeIn(0, 2, 3), 0);
        Check.due("40: nothing is left", Check.row(x, 3), "");
        x.comment(0, 1, 1, 1, -1);
        Check.due("40: into itself again", x.takeIn(0, 1, 1), 4);
        Check.due("40: comments lose their tokens", x.about(0), -1);
        Check.due("40: so do shows", Check.shown(x, 0, 0), "<>");
    }

    private static void takenInFull() {
        Notebookspire x = parts("abcdefghijklmnopqrstuvwxyzabcdefghijklm");
        x.make(0, Notebookspire.TEXT);
        x.show(0, 1, 0, 38);
        Check.write(x, 0, 3, "z00");
        Check.due("40: up to 40", x.takeIn(0, 3, 1), 40);
        Check.due("40: up to 40", Check.row(x, 1), "zabcdefghijklmnopqrstuvwxyzabcdefghijklm");
        Check.due("40: 39 out and 40 in", x.log(1), 39 + 39 + 40);
    }

    private static void takenInAsSeen() {
        Notebookspire x = parts("ab");
        x.make(1, Notebookspire.TEXT);
        x.show(0, 0, 0, 0);
        x.show(0, 1, 0, 1);
        x.put(0, 1, 2, 201);
        x.send(0, 1);
        x.give(0, 1, 2, 1);
        x.give(1, 3, 2, 3);
        x.put(1, 3, 0, 23);
        x.send(1, 3);
        x.put(2, 3, 0, 24);
        Check.due("40: sends first", x.takeIn(2, 1, 3), 4);
        Check.due("40: of the FIELD too", Check.row(x, 3), "abab");
        Check.due("40: sent, out and in", x.log(3), 2 + 2 + 4);
        x.put(0, 1, 0, 25);
        Check.due("40: into itself, with what was sent", x.takeIn(0, 1, 1), 5);
        Check.due("40: into itself", Check.row(x, 1), "zabab");
        x.make(3, Notebookspire.DECK);
        x.give(3, 4, 2, 1);
        x.slide(3, 4, 0);
        x.box(3, 4, 0, 0, 1, 0);
        x.give(0, 1, 2, 0);
        Check.due("40: as the person sees it", x.takeIn(2, 4, 3), 1);
        Check.due("40: not what is hidden", Check.row(x, 3), "B");
    }

    private static void wrongTakenIn() {
        Notebookspire x = parts("ab");
        x.make(1, Notebookspire.TEXT);
        x.put(1, 3, 0, 5);
        for (int bad : Check.outside(0, 3)) {
            Check.index("40: person " + bad, x, () -> x.takeIn(bad, 1, 1));
            Check.index("40: part " + bad, x, () -> x.takeIn(0, bad, 1));
        }
        for (int bad : new int[] {-1, 0, 2, 4, Integer.MIN_VALUE, Integer.MAX_VALUE}) {
            Check.index("40: TEXT " + bad, x, () -> x.takeIn(0, 1, bad));
            Check.index("40: TEXT ahead of right " + bad, x, () -> x.takeIn(3, 1, bad));
        }
        Check.right("40: no EDIT to the TEXT", x, () -> x.takeIn(1, 3, 1));
        x.give(1, 3, 0, 2);
        Check.right("40: NOTE is not enough", x, () -> x.takeIn(0, 1, 3));
        x.give(0, 0, 1, 0);
        Check.right("40: no SEE to the part", x, () -> x.takeIn(1, 0, 3));
        x.give(0, 0, 1, 1);
        Check.due("40: SEE and EDIT are enough", x.takeIn(1, 0, 3), 3);
    }

    /** Puts in and takes out at the end of the row, until the log has so many edits. */
    private static void fill(Notebookspire x, int part, int edits) {
        x.send(0, part);
        while (x.log(part) < edits) {
            int end = x.length(part);
            x.put(0, part, end, 25);
            if (x.log(part) + 1 < edits) {
                x.out(0, part, end);
            }
            x.send(0, part);
        }
    }

    private static void longTakenIn() {
        Notebookspire x = parts("ab");
        x.make(0, Notebookspire.TEXT);
        x.make(0, Notebookspire.TEXT);
        Check.write(x, 0, 3, "xyz");
        Check.write(x, 0, 4, "xyz");
        fill(x, 3, 295);
        fill(x, 4, 295);
        x.put(0, 3, 0, 7);
        Check.state("40: 302 edits", x, () -> x.takeIn(0, 1, 3));
        Check.due("40: nothing sent", x.length(3), 3);
        Check.due("40: own edits stay", Check.view(x, 0, 3), "hxyz");
        Check.due("40: 300 edits", x.takeIn(0, 1, 4), 2);
        Check.due("40: 300 edits", x.log(4), 300);
        Check.state("40: full", x, () -> x.takeIn(0, 1, 4));
        Notebookspire z = parts("ab");
        z.make(0, Notebookspire.TEXT);
        z.make(0, Notebookspire.TEXT);
        fill(z, 3, 297);
        fill(z, 4, 298);
        Check.clear(z, 0, 3);
        Check.due("40: 298 edits, no row", z.log(3) - z.length(3), 298);
        Check.state("40: three more", z, () -> z.takeIn(0, 0, 3));
        Check.due("40: two more", z.takeIn(0, 1, 3), 2);
        Check.due("40: 298 edits, no row", z.log(4) - z.length(4), 298);
        Check.state("40: of characters that are left out, none counts", z, () -> z.takeIn(0, 0, 4));
        Notebookspire u = parts("abc");
        u.make(0, Notebookspire.TEXT);
        fill(u, 3, 297);
        Check.due("40: 297 edits, a row of one", u.log(3) + u.length(3), 298);
        Check.state("40: 301 with what is taken out and put in", u, () -> u.takeIn(0, 1, 3));
        Notebookspire w = parts("");
        w.make(0, Notebookspire.TEXT);
        fill(w, 3, 296);
        Check.due("40: what is left out counts for nothing", w.takeIn(0, 0, 3), 3);
        Notebookspire v = parts("abcdefghijklmnopqrstuvwxyzabcdefghijklmn");
        v.make(0, Notebookspire.TEXT);
        v.make(0, Notebookspire.TEXT);
        v.show(0, 1, 0, 39);
        Check.write(v, 0, 4, "0b");
        fill(v, 3, 260);
        Check.due("40: nor do those behind the 40th", v.takeIn(0, 4, 3), 40);
        Check.due("40: 300 edits then", v.log(3), 300);
        Notebookspire y = parts("ab");
        y.make(0, Notebookspire.TEXT);
        fill(y, 3, 295);
        Check.clear(y, 0, 3);
        for (int i = 0; i < 5; i++) {
            y.put(0, 3, 0, i);
        }
        Check.state("40: too many to be sent", y, () -> y.takeIn(0, 1, 3));
    }

    private static void changed() {
        Notebookspire x = parts("abaacHaa");
        Check.due("41: ahead of one letter", x.change(0, 0, 1, 25), 1);
        Check.due("41: the row", Check.row(x, 1), "zbaacHaa");
        Check.due("41: ahead of any letter", x.change(0, 0, -1, 24), 3);
        Check.due("41: not of a BREAK, nor of the end", Check.row(x, 1), "zbyycHya");
        Check.due("41: two edits each", x.log(1), 8 + 8);
        Check.due("41: by the log", Check.rowByLog(x, 1), "zbyycHya");
        Check.due("41: all places are found ahead", x.change(0, 24, 24, 24), 1);
        Check.due("41: the same letter is an edit too", x.log(1), 18);
        x.undo(0, 1);
        Check.due("41: first taken out, then put in", Check.row(x, 1), "zbycHya");
        x.undo(0, 1);
        Check.due("41: undone", Check.row(x, 1), "zbyycHya");
        Check.due("41: none", x.change(0, 7, -1, 8), 0);
        Notebookspire y = parts("aaab");
        Check.due("41: all places", y.change(0, 0, 0, 1), 2);
        Check.due("41: found ahead of changing", Check.row(y, 1), "bbab");
        y.undo(0, 1);
        Check.due("41: from the last one back", Check.row(y, 1), "bab");
        Notebookspire z = parts("abab");
        z.comment(0, 1, 0, 0, -1);
        z.comment(0, 1, 1, 2, -1);
        z.comment(0, 1, 2, 3, -1);
        z.show(0, 1, 0, 1);
        z.change(0, 0, 1, 25);
        Check.due("41: a comment about it is closed", z.about(0), -1);
        Check.due("41: one that ends with it", z.about(1), 101);
        Check.due("41: one that begins with it", z.about(2), 301);
        Check.due("41: a show that begins with it", Check.shown(z, 0, 0), "<b>");
        z.put(0, 1, 2, 200);
        z.send(0, 1);
        Check.due("41: not ahead of a FIELD", z.change(0, 1, -1, 3), 0);
    }

    private static void changedInAll() {
        Notebookspire x = new Notebookspire();
        for (int i = 0; i < 4; i++) {
            x.make(i == 3 ? 1 : 0, Notebookspire.TEXT);
            Check.write(x, i == 3 ? 1 : 0, i, "ab");
        }
        x.make(0, Notebookspire.SHEET);
        x.give(0, 0, 1, 3);
        x.give(0, 1, 1, 2);
        x.give(0, 2, 1, 3);
        x.put(1, 2, 0, 0);
        x.put(0, 0, 2, 0);
        x.put(0, 0, 3, 1);
        x.put(1, 1 - 1, 0, 1);
        Check.due("41: where there is EDIT", x.change(1, 0, 1, 25), 3);
        Check.due("41: with what was sent", Check.row(x, 0), "zbb");
        Check.due("41: NOTE is not enough", Check.row(x, 1), "ab");
        Check.due("41: with what was sent", Check.row(x, 2), "zba");
        Check.due("41: one's own", Check.row(x, 3), "zb");
        Check.due("41: all seen", Check.view(x, 1, 0), "zbb");
        x.give(0, 0, 3, 3);
        x.give(0, 1, 3, 3);
        x.send(3, 0);
        x.put(3, 0, 0, 23);
        x.send(0, 1);
        Check.due("41: none", x.change(3, 12, -1, 13), 0);
        Check.due("41: sent all the same", Check.row(x, 0), "xzbb");
        Check.due("41: and all seen", Check.view(x, 3, 1), "ab");
        Check.due("41: by one without EDIT", x.change(2, 0, 1, 3), 0);
    }

    private static void wrongChanges() {
        Notebookspire x = parts("ab");
        x.put(0, 1, 0, 3);
        for (int bad : Check.outside(0, 3)) {
            Check.index("41: person " + bad, x, () -> x.change(bad, 0, 0, 0));
            Check.index("41: person ahead of letter " + bad, x, () -> x.change(bad, 26, 0, 0));
        }
        for (int bad : Check.outside(0, 25)) {
            Check.argument("41: letter " + bad, x, () -> x.change(0, bad, 0, 0));
            Check.argument("41: to " + bad, x, () -> x.change(0, 0, 0, bad));
        }
        for (int bad : Check.outside(-1, 25)) {
            Check.argument("41: ahead " + bad, x, () -> x.change(0, 0, bad, 0));
        }
        Check.due("41: the last letter", x.change(0, 25, 25, 25), 0);
        Check.due("41: the own edit is sent", Check.row(x, 1), "dab");
    }

    private static void longChanges() {
        Notebookspire x = parts("abab");
        x.make(0, Notebookspire.TEXT);
        Check.write(x, 0, 3, "abab");
        fill(x, 3, 298);
        x.comment(0, 1, 0, 1, -1);
        x.show(0, 1, 0, 3);
        x.put(0, 1, 0, 25);
        x.put(0, 3, 0, 25);
        Check.state("41: a second log too long", x, () -> x.change(0, 0, 1, 3));
        Check.due("41: the first one is as it was", Check.row(x, 1), "abab");
        Check.due("41: with its own edits", Check.view(x, 0, 1), "zabab");
        Check.due("41: and log", x.log(1), 4);
        Check.state("41: by one edit", x, () -> x.change(0, 25, 0, 3));
        for (int i = 0; i < 4; i++) {
            x.put(0, 3, 0, 25);
        }
        Check.state("41: too many to be sent", x, () -> x.change(0, 13, -1, 3));
        Notebookspire z = new Notebookspire();
        z.make(0, Notebookspire.TEXT);
        z.make(0, Notebookspire.TEXT);
        Check.write(z, 0, 0, "abab");
        Check.write(z, 0, 1, "abab");
        fill(z, 1, 298);
        z.put(0, 0, 0, 25);
        Check.state("41: whatever the first part is", z, () -> z.change(0, 0, 1, 3));
        Notebookspire y = parts("abab");
        fill(y, 1, 296);
        Check.due("41: 300 edits", y.change(0, 0, 1, 3), 2);
        Check.due("41: 300 edits", y.log(1), 300);
    }
}
