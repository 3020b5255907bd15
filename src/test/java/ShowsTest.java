/** Promises 33 to 37: show, freeze, shown, shownAt and redrawn. */
public final class ShowsTest {
    public static void main(String[] args) {
        ranges();
        tokens();
        wrongShows();
        fields();
        longShows();
        frozen();
        wrongFreezes();
        wrongAsks();
        redrawn();
        Check.end("ShowsTest");
    }

    /** A SHEET and a TEXT of the person 0, to which 1 has SEE; 2 has SEE to the TEXT alone. */
    private static Notebookspire parts(String row) {
        Notebookspire x = new Notebookspire();
        x.make(0, Notebookspire.SHEET);
        x.make(0, Notebookspire.TEXT);
        x.give(0, 0, 1, 1);
        x.give(0, 1, 1, 1);
        x.give(0, 1, 2, 1);
        Check.write(x, 0, 1, row);
        return x;
    }

    private static void is(String what, Notebookspire x, int show, String want) {
        Check.due(what, Check.shown(x, 0, show), want);
    }

    private static void ranges() {
        Notebookspire x = parts("");
        x.set(0, 0, 0, false, 12);
        x.set(0, 0, 1, false, -3);
        x.set(0, 0, 4, false, 0);
        x.formula(0, 0, 3, 4, 0, 0, 0, 0);
        x.set(0, 0, 5, false, 2);
        x.formula(0, 0, 8, 4, 0, 5, 0, 0);
        Check.due("33: the first number", x.show(1, 0, 0, 4), 0);
        is("35: a range", x, 0, "<12,-3,!,0>");
        Check.due("33: by other corners", x.show(0, 0, 4, 0), 1);
        is("35: by other corners", x, 1, "<12,-3,!,0>");
        x.show(0, 0, 11, 5);
        is("35: what spills", x, 2, "<2,1,2>");
        x.show(0, 0, 2, 2);
        is("35: a blank cell", x, 3, "<>");
        x.show(0, 0, 9, 1);
        is("35: by the other two corners", x, 4, "<12,-3,!,0,,,,>");
        x.set(0, 0, 2, false, 1000);
        is("35: live", x, 3, "<1000>");
        Check.due("35: to one with SEE", Check.shown(x, 1, 3), "<1000>");
        Check.due("35: to one without a right", Check.shown(x, 2, 3), "#");
        x.give(0, 0, 1, 0);
        Check.due("35: without it now", Check.shown(x, 1, 3), "#");
        x.formula(0, 0, 6, 2, 0, 2, 0, 2);
        x.show(0, 0, 6, 6);
        is("35: 1000000", x, 5, "<1000000>");
        x.set(0, 0, 1, false, -1000);
        x.formula(0, 0, 6, 2, 0, 2, 0, 1);
        is("35: -1000000", x, 5, "<-1000000>");
        x.set(0, 0, 6, false, 100);
        is("35: 100", x, 5, "<100>");
        x.set(0, 0, 6, false, -10);
        is("35: -10", x, 5, "<-10>");
    }

    private static void tokens() {
        Notebookspire x = parts("abHcz");
        x.show(1, 1, 1, 3);
        is("35: tokens", x, 0, "<b/c>");
        x.put(0, 1, 1, 23);
        is("35: own edits count for nothing", x, 0, "<b/c>");
        x.send(0, 1);
        is("35: put in at its place", x, 0, "<b/c>");
        x.put(0, 1, 4, 24);
        x.send(0, 1);
        is("35: put in at its last one", x, 0, "<b/yc>");
        x.put(0, 1, 6, 25);
        x.send(0, 1);
        is("35: put in behind", x, 0, "<b/yc>");
        x.out(0, 1, 3);
        x.out(0, 1, 0);
        x.send(0, 1);
        is("35: taken out", x, 0, "<byc>");
        Check.due("35: to one with SEE", Check.shown(x, 2, 0), "<byc>");
        Check.due("35: to one without a right", Check.shown(x, 3, 0), "#");
        Check.clear(x, 0, 1);
        is("35: none is left", x, 0, "<>");
        Check.write(x, 0, 1, "xyz");
        is("35: none comes back", x, 0, "<>");
        x.show(0, 1, 0, 2);
        is("35: all tokens", x, 1, "<xyz>");
    }

    private static void wrongShows() {
        Notebookspire x = parts("abc");
        x.make(0, Notebookspire.DECK);
        x.give(0, 2, 1, 3);
        for (int bad : Check.outside(0, 3)) {
            Check.index("33: person " + bad, x, () -> x.show(bad, 0, 0, 0));
        }
        for (int bad : new int[] {-1, 2, 3, Integer.MIN_VALUE, Integer.MAX_VALUE}) {
            Check.index("33: part " + bad, x, () -> x.show(0, bad, 0, 0));
        }
        for (int bad : Check.outside(0, 11)) {
            Check.index("33: first cell " + bad, x, () -> x.show(0, 0, bad, 0));
            Check.index("33: last cell " + bad, x, () -> x.show(0, 0, 0, bad));
            Check.index("33: cell ahead of right " + bad, x, () -> x.show(3, 0, 0, bad));
        }
        for (int bad : Check.outside(0, 2)) {
            Check.index("33: first token " + bad, x, () -> x.show(0, 1, bad, 2));
            Check.index("33: last token " + bad, x, () -> x.show(0, 1, 0, bad));
        }
        Check.index("33: last below first", x, () -> x.show(0, 1, 2, 1));
        Check.right("33: no right", x, () -> x.show(2, 0, 0, 0));
        Check.right("33: no right", x, () -> x.show(3, 1, 0, 0));
        for (int i = 0; i < 10; i++) {
            Check.due("33: the number", x.show(1, i % 2, 1, 2), i);
        }
        Check.state("33: an eleventh", x, () -> x.show(0, 0, 0, 0));
        Check.right("33: right ahead of an eleventh", x, () -> x.show(3, 0, 0, 0));
        Check.index("33: cell ahead of an eleventh", x, () -> x.show(0, 0, 12, 0));
    }

    private static void fields() {
        Notebookspire x = parts("ab");
        x.set(0, 0, 0, false, 7);
        x.show(0, 0, 0, 1);
        x.show(0, 1, 0, 1);
        x.put(0, 1, 1, 200);
        x.send(0, 1);
        is("35: a FIELD", x, 1, "<a<7,>b>");
        Check.due("35: with the rights of who sees it", Check.shown(x, 2, 1), "<a#b>");
        x.put(0, 1, 1, 201);
        x.send(0, 1);
        is("35: a FIELD of itself", x, 1, "<a<a@@b><7,>b>");
        Check.due("35: within another one, whatever right", Check.shown(x, 2, 1), "<a<a@@b>#b>");
        x.freeze(0, 0);
        x.set(0, 0, 0, false, 8);
        is("35: a frozen one in a FIELD", x, 1, "<a<a@@b><7,>b>");
        x.freeze(0, 1);
        x.set(0, 0, 0, false, 9);
        x.freeze(0, 0);
        is("36: as it was", x, 1, "<a<a@@b><7,>b>");
        x.make(3, Notebookspire.TEXT);
        Check.write(x, 3, 2, "x1y");
        x.show(3, 2, 0, 2);
        Check.due("35: of what is frozen, all", Check.shown(x, 0, 2), "#");
        Check.due("35: without the right to it", Check.shown(x, 3, 2), "<x#y>");
        x.give(3, 2, 0, 1);
        is("35: a frozen text is not looked into", x, 2, "<x<a<a@@b><7,>b>y>");
        x.freeze(0, 1);
        is("35: live again", x, 2, "<x<a@@b>y>");
    }

    private static void longShows() {
        Notebookspire x = parts("a");
        for (int i = 0; i < 12; i++) {
            x.set(0, 0, i, false, -1000);
        }
        x.set(0, 0, 0, false, 1000);
        x.make(0, Notebookspire.SHEET);
        for (int i = 0; i < 12; i++) {
            x.formula(0, 2, i, 2, 0, 0, 0, 1);
        }
        x.show(0, 2, 0, 11);
        StringBuilder b = new StringBuilder("<");
        for (int i = 0; i < 12; i++) {
            b.append(i == 0 ? "" : ",").append("-1000000");
        }
        String eighty = b.substring(0, 80);
        is("35: no more than 80", x, 0, eighty);
        Check.due("35: how many", x.shown(0, 0), 80);
        Check.due("36: the last one", x.shownAt(0, 0, 79), eighty.charAt(79));
        Check.index("36: behind it", x, () -> x.shownAt(0, 0, 80));
        x.show(0, 1, 0, 0);
        x.put(0, 1, 0, 200);
        x.send(0, 1);
        Check.due("38: a FIELD of 80", Check.flat(x, 0, 1, 0), eighty + "a");
        x.show(0, 1, 0, 1);
        is("35: within another one, too", x, 2, "<" + eighty.substring(0, 79));
        x.freeze(0, 2);
        is("35: frozen so", x, 2, "<" + eighty.substring(0, 79));
        Notebookspire y = parts("");
        Check.write(y, 0, 1, "abcdefghijklmnopqrstuvwxyzabcdefghijk");
        y.show(0, 1, 0, 36);
        y.put(0, 1, 1, 200);
        y.send(0, 1);
        is("35: 79", y, 0, "<a<a@bcdefghijklmnopqrstuvwxyzabcdefghijk>bcdefghijklmnopqrstuvwxyzabcdefghijk>");
        y.put(0, 1, 38, 25);
        y.send(0, 1);
        is("35: 79 with one behind", y, 0, "<a<a@bcdefghijklmnopqrstuvwxyzabcdefghijk>bcdefghijklmnopqrstuvwxyzabcdefghijk>");
        y.put(0, 1, 2, 25);
        y.send(0, 1);
        is("35: 81", y, 0, "<a<a@zbcdefghijklmnopqrstuvwxyzabcdefghijk>zbcdefghijklmnopqrstuvwxyzabcdefghijk");
        Check.due("35: 80 of these", y.shown(0, 0), 80);
    }

    private static void frozen() {
        Notebookspire x = parts("ab");
        x.make(3, Notebookspire.SHEET);
        x.set(3, 2, 0, false, 5);
        x.show(3, 2, 0, 0);
        x.put(0, 1, 1, 200);
        x.send(0, 1);
        x.show(0, 1, 0, 2);
        is("34: live", x, 1, "<a#b>");
        Check.due("34: frozen", x.freeze(1, 1), true);
        is("34: to all as to one with all rights", x, 1, "<a<5>b>");
        x.set(3, 2, 0, false, 6);
        x.put(0, 1, 1, 23);
        x.send(0, 1);
        is("34: it stays", x, 1, "<a<5>b>");
        Check.due("34: without the right", Check.shown(x, 3, 1), "#");
        Check.due("34: live again", x.freeze(2, 1), false);
        is("34: as it is now", x, 1, "<ax#b>");
        Check.due("34: frozen anew", x.freeze(0, 1), true);
        is("34: anew", x, 1, "<ax<6>b>");
        Check.due("34: it moves while frozen", x.freeze(0, 1), false);
        x.freeze(0, 1);
        x.put(0, 1, 0, 24);
        x.send(0, 1);
        x.out(0, 1, 1);
        x.send(0, 1);
        x.freeze(0, 1);
        is("34: it has moved", x, 1, "<x#b>");
    }

    private static void wrongFreezes() {
        Notebookspire x = parts("ab");
        Check.index("34: none yet", x, () -> x.freeze(0, 0));
        x.show(0, 0, 0, 0);
        for (int bad : Check.outside(0, 3)) {
            Check.index("34: person " + bad, x, () -> x.freeze(bad, 0));
        }
        for (int bad : Check.outside(0, 0)) {
            Check.index("34: show " + bad, x, () -> x.freeze(0, bad));
        }
        Check.right("34: no right", x, () -> x.freeze(2, 0));
        x.freeze(0, 0);
        Check.right("34: nor to let it be live", x, () -> x.freeze(3, 0));
        x.set(0, 0, 0, false, 3);
        is("34: frozen still", x, 0, "<>");
    }

    private static void wrongAsks() {
        Notebookspire x = parts("ab");
        x.show(0, 1, 0, 1);
        for (int bad : Check.outside(0, 3)) {
            Check.index("35: person " + bad, x, () -> x.shown(bad, 0));
            Check.index("36: person " + bad, x, () -> x.shownAt(bad, 0, 0));
            Check.index("36: index " + bad, x, () -> x.shownAt(0, 0, bad));
        }
        for (int bad : Check.outside(0, 0)) {
            Check.index("35: show " + bad, x, () -> x.shown(0, bad));
            Check.index("36: show " + bad, x, () -> x.shownAt(0, bad, 0));
            Check.index("36: index without the right " + bad, x, () -> x.shownAt(3, 0, bad));
        }
        Check.due("35: how many", x.shown(0, 0), 4);
        Check.due("35: without the right", x.shown(3, 0), 1);
        Check.due("36: the first one", x.shownAt(0, 0, 0), '<');
        Check.due("36: the last one", x.shownAt(0, 0, 3), '>');
    }

    private static void redrawn() {
        Notebookspire x = parts("ab");
        Check.due("37: none", x.redrawn(), 0);
        x.show(0, 0, 0, 0);
        x.show(0, 0, 3, 3);
        Check.due("37: made since", x.redrawn(), 2);
        Check.due("37: nothing since", x.redrawn(), 0);
        x.set(0, 0, 0, false, 4);
        Check.due("37: one", x.redrawn(), 1);
        x.set(0, 0, 0, false, 5);
        x.set(0, 0, 0, false, 4);
        Check.due("37: the same again", x.redrawn(), 0);
        x.put(0, 1, 1, 200);
        x.send(0, 1);
        x.show(0, 1, 0, 2);
        Check.due("37: the new one", x.redrawn(), 1);
        x.set(0, 0, 0, false, 5);
        Check.due("37: by a FIELD too", x.redrawn(), 2);
        x.give(0, 0, 1, 0);
        Check.due("37: rights count for nothing", x.redrawn(), 0);
        x.freeze(0, 2);
        Check.due("37: frozen as it was", x.redrawn(), 0);
        x.set(0, 0, 0, false, 6);
        Check.due("37: frozen ones are not redrawn", x.redrawn(), 1);
        x.freeze(0, 2);
        Check.due("37: live again", x.redrawn(), 1);
        x.set(0, 0, 3, false, 7);
        x.show(0, 0, 0, 0);
        x.make(3, Notebookspire.SHEET);
        x.show(3, 2, 0, 0);
        x.set(3, 2, 0, false, 7);
        Check.due("37: three of them", x.redrawn(), 3);
    }
}
