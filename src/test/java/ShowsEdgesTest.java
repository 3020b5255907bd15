/** The edges of the promises 33 to 37: show, freeze, shown, shownAt and redrawn. */
public final class ShowsEdgesTest {
    /** A SHEET and a TEXT of the person 0, to which 1 has SEE, a DECK, and a TEXT of the person 2. */
    private static final String[] PARTS = {"make 0 0", "make 0 1", "make 0 2", "make 2 1", "give 0 {0,1} 1 1"};
    private static final String FORTY = "abcdefghijklmnopqrstuvwxyzabcdefghijklmn";
    private static final String LONG = FORTY.substring(0, 38);

    public static void main(String[] args) {
        cells();
        tokens();
        tokensThatMove();
        tenShows();
        whoMayShow();
        firstOfTheReasonsNotToShow();
        freezing();
        whoMayFreeze();
        drawnCells();
        drawnTokens();
        drawnFields();
        eighty();
        eightyInAField();
        rightsToSee();
        askedFor();
        redrawn();
        redrawnOnes();
        Check.end("ShowsEdgesTest");
    }

    private static Script on(String about, String row, String... rows) {
        return new Script(about, PARTS).on(row.isEmpty() ? "length 1 = 0" : "write 0 1 " + row).on(rows);
    }

    private static void cells() {
        on("33: the first and the last cell", "", "set 0 0 0 number 1", "set 0 0 11 number 2", "show 0 0 0 0 = 0", "show 0 0 11 11 = 1", "show 0 0 0 11 = 2",
            "show 0 0 11 0 = 3", "drawn 0 0 = <1>", "drawn 0 1 = <2>", "drawn 0 {2,3} = <1,,,,,,,,,,,2>");
        on("33: no such cell", "", "show 0 0 {-1,12,MIN,MAX} 0 ! index", "show 0 0 0 {-1,12,MIN,MAX} ! index", "show 0 0 {-1,12} {-1,12} ! index");
        on("33: no such part", "a", "show 0 {-1,2,4,6,MIN,MAX} 0 0 ! index");
        on("33: no such person", "a", "show {-1,4,MIN,MAX} {0,1} 0 0 ! index");
    }

    private static void tokens() {
        on("33: of an empty row", "", "show 0 1 {-1,0,1} {-1,0,1} ! index");
        on("33: the first and the last token", "abc", "show 0 1 0 0 = 0", "show 0 1 2 2 = 1", "show 0 1 0 2 = 2", "drawn 0 0 = <a>", "drawn 0 1 = <c>",
            "drawn 0 2 = <abc>");
        on("33: no such token", "abc", "show 0 1 {-1,3,MIN,MAX} 2 ! index", "show 0 1 0 {-1,3,MIN,MAX} ! index", "show 0 1 {-1,3} {-1,3} ! index");
        on("33: the last one below the first one", "abc", "show 0 1 2 {0,1} ! index", "show 0 1 1 0 ! index", "show 0 1 2 2 = 0");
        on("33: of the row, not of the view", "a", "put 0 1 1 1", "show 0 1 0 1 ! index", "show 0 1 1 1 ! index", "out 0 1 0", "out 0 1 0", "show 0 1 0 0 = 0",
            "drawn 0 0 = <a>");
        on("33: of forty", FORTY, "show 0 1 0 39 = 0", "show 0 1 39 39 = 1", "show 0 1 0 40 ! index", "show 0 1 40 40 ! index", "drawn 0 0 = <" + FORTY + ">",
            "drawn 0 1 = <n>");
    }

    /** A show of the tokens 2 to 4 of "abcdefg", another one of 2 alone, and an edit. */
    private static void moved(String edit, String three, String one) {
        on("33: moved by " + edit, "abcdefg", "show 0 1 2 4", "show 0 1 2 2", edit, "drawn 0 0 = <cde>", "drawn 0 1 = <c>", "send 0 1", "drawn 0 0 = " + three,
            "drawn 0 1 = " + one);
    }

    private static void tokensThatMove() {
        moved("put 0 1 0 25", "<cde>", "<c>");
        moved("put 0 1 2 25", "<cde>", "<c>");
        moved("put 0 1 3 25", "<czde>", "<c>");
        moved("put 0 1 4 25", "<cdze>", "<c>");
        moved("put 0 1 5 25", "<cde>", "<c>");
        moved("out 0 1 0", "<cde>", "<c>");
        moved("out 0 1 1", "<cde>", "<c>");
        moved("out 0 1 2", "<de>", "<>");
        moved("out 0 1 3", "<ce>", "<c>");
        moved("out 0 1 4", "<cd>", "<c>");
        moved("out 0 1 5", "<cde>", "<c>");
        on("33: it stays when none are left", "ab", "show 0 1 0 0 = 0", "out 0 1 0", "send 0 1", "drawn 0 0 = <>", "shown 0 0 = 2", "put 0 1 0 25", "send 0 1",
            "drawn 0 0 = <>", "put 0 1 1 25", "send 0 1", "drawn 0 0 = <>", "undo 0 1", "drawn 0 0 = <>", "freeze 0 0 = true", "drawn 0 0 = <>", "put 0 1 0 200",
            "send 0 1", "show 0 1 0 2 = 1", "drawn 0 1 = <<>zb>");
        on("33: all of the row are taken out", "ab", "show 0 1 0 1 = 0", "out 0 1 {0,0}", "send 0 1", "drawn 0 0 = <>", "write 0 1 xyz", "drawn 0 0 = <>");
        on("33: cells do not move", "abc", "set 0 0 1 number 4", "show 0 0 1 1 = 0", "put 0 1 0 3", "send 0 1", "drawn 0 0 = <4>");
    }

    private static void tenShows() {
        on("33: ten", "abc").each(0, 9, "show 1 0 %d %d = %d").on("show 0 0 0 0 ! state", "show 0 1 0 2 ! state", "shown 0 9 = 2", "shown 0 10 ! index",
            "freeze 0 9 = true", "show 0 0 0 0 ! state");
        on("33: ten of tokens and of cells", "abc").each(0, 4, "show 0 0 0 0", "show 0 1 0 2").on("show 0 {0,1} 0 0 ! state");
    }

    private static void whoMayShow() {
        on("33: with NOTHING", "abc", "show 3 {0,1} 0 2 ! right", "show 0 3 0 0 ! index", "write 2 3 a", "show 0 3 0 0 ! right");
        on("33: with SEE and more", "abc").each(1, 3, "give 0 {0,1} 3 %d", "show 3 {0,1} 0 2");
    }

    private static void firstOfTheReasonsNotToShow() {
        on("33: with several reasons", "abc").each(0, 9, "show 0 0 0 0").on("show {-1,4} {0,1} {0,12} 0 ! index", "show {0,3} {-1,2,6} 0 0 ! index",
            "show {0,3} 0 {-1,0} 12 ! index", "show {0,3} 1 {-1,2} 1 ! index", "show {0,3} 1 0 3 ! index", "show 3 {0,1} 0 2 ! right", "show {0,1} {0,1} 0 2 ! state");
    }

    private static void freezing() {
        on("34: frozen and live again", "abc", "show 0 1 0 1 = 0", "freeze 0 0 = true", "freeze 0 0 = false", "freeze 0 0 = true", "put 0 1 1 25", "send 0 1",
            "drawn 0 0 = <ab>", "freeze 0 0 = false", "drawn 0 0 = <azb>");
        on("34: as it was then, not at first", "abc", "show 0 1 0 1 = 0", "freeze 0 0 = true", "put 0 1 1 25", "send 0 1", "freeze 0 0 = false", "freeze 0 0 = true",
            "put 0 1 1 24", "send 0 1", "drawn 0 0 = <azb>");
        on("34: of cells", "", "set 0 0 0 number 1", "show 0 0 0 1 = 0", "freeze 0 0 = true", "set 0 0 0 number 2", "drawn {0,1} 0 = <1,>", "drawn 2 0 = #",
            "freeze 0 0 = false", "drawn 0 0 = <2,>");
        on("34: no such show", "abc", "freeze 0 {-1,0,1} ! index", "show 0 1 0 1", "freeze 0 {-1,1,9,10,MIN,MAX} ! index");
        on("34: no such person", "abc", "show 0 1 0 1", "freeze {-1,4,MIN,MAX} {0,1} ! index");
        on("34: the tenth", "abc").each(0, 9, "show 0 1 0 2 = %d").on("freeze 0 9 = true", "freeze 0 10 ! index", "out 0 1 0", "send 0 1",
            "drawn 0 9 = <abc>", "drawn 0 8 = <bc>");
    }

    private static void whoMayFreeze() {
        on("34: with NOTHING", "abc", "show 0 1 0 1", "freeze {2,3} 0 ! right", "freeze 0 0 = true", "freeze {2,3} 0 ! right", "drawn 0 0 = <ab>");
        on("34: with SEE and more", "abc", "show 0 1 0 1").each(1, 3, "give 0 1 3 %d", "freeze 3 0 = true", "freeze 3 0 = false");
        on("34: who has made it, without the right", "abc", "show 1 1 0 1 = 0", "give 0 1 1 0", "freeze 1 0 ! right");
        on("34: with several reasons", "abc", "show 0 1 0 1", "freeze {-1,4} {0,1} ! index", "freeze {2,3} {-1,1} ! index", "freeze {2,3} 0 ! right");
    }

    private static void drawnCells() {
        on("35: blank, numbers and errors", "", "show 0 0 0 5 = 0", "drawn 0 0 = <,,,,,>", "set 0 0 0 number 0", "set 0 0 1 number -1", "set 0 0 2 number 1000",
            "formula 0 0 3 4 0 11 0 0", "set 0 0 5 number -1000", "drawn 0 0 = <0,-1,1000,!,,-1000>");
        on("35: one cell", "", "show 0 0 4 4 = 0", "drawn 0 0 = <>", "set 0 0 4 number 9", "drawn 0 0 = <9>", "set 0 0 4 number 10", "drawn 0 0 = <10>",
            "set 0 0 4 number 99", "drawn 0 0 = <99>", "set 0 0 4 number 100", "drawn 0 0 = <100>", "set 0 0 4 number -9", "drawn 0 0 = <-9>",
            "set 0 0 4 number -10", "drawn 0 0 = <-10>");
        on("35: the greatest and the least", "", "set 0 0 0 number 1000", "set 0 0 1 number -1000", "formula 0 0 2 2 0 0 0 0", "formula 0 0 3 2 0 0 0 1",
            "show 0 0 2 3 = 0", "show 0 0 2 2 = 1", "show 0 0 3 3 = 2", "drawn 0 1 = <1000000>", "drawn 0 2 = <-1000000>", "formula 0 0 4 0 0 2 0 2",
            "show 0 0 4 4 = 3", "drawn 0 3 = <!>");
        on("35: each error", "", "formula 0 0 0 4 0 11 0 0", "set 0 0 11 number 2", "formula 0 0 9 4 0 11 0 0", "set 0 0 3 number 9", "make 2 0",
            "formula 0 0 6 0 4 0 4 0", "show 0 0 0 9 = 0", "drawn 0 0 = <!,9,!,!>");
        on("35: what spills", "", "set 0 0 0 number 2", "formula 0 0 1 4 0 0 0 0", "show 0 0 4 4 = 0", "drawn 0 0 = <2>", "set 0 0 0 number 1", "drawn 0 0 = <>");
        on("35: a range from other corners", "", "set 0 0 0 number 1", "set 0 0 1 number 2", "set 0 0 2 number 3", "set 0 0 3 number 4", "set 0 0 4 number 5",
            "set 0 0 5 number 6", "show 0 0 1 5 = 0", "show 0 0 5 1 = 1", "show 0 0 2 4 = 2", "show 0 0 4 2 = 3", "drawn 0 {0..3} = <2,3,5,6>", "show 0 0 2 3 = 4",
            "drawn 0 4 = <1,2,3,4,5,6>", "show 0 0 0 3 = 5", "drawn 0 5 = <1,4>", "show 0 0 2 0 = 6", "drawn 0 6 = <1,2,3>");
    }

    private static void drawnTokens() {
        on("35: letters and BREAKs", "azHSBR", "show 0 1 0 5 = 0", "drawn 0 0 = <az////>", "shown 0 0 = 8");
        on("35: own edits count for nothing", "ab", "show 0 1 0 1 = 0", "put 0 1 1 25", "out 0 1 0", "drawn 0 0 = <ab>");
    }

    private static void drawnFields() {
        on("35: a FIELD, and one within it", "ab", "set 0 0 0 number 7", "show 0 0 0 0 = 0", "show 0 1 0 1 = 1", "put 0 1 1 200", "send 0 1", "drawn 0 1 = <a<7>b>",
            "write 2 3 xy", "show 2 3 0 1 = 2", "give 2 3 0 1", "put 2 3 1 201", "send 2 3", "drawn 0 2 = <x<a@b>y>", "drawn 2 2 = <x#y>", "give 0 1 2 1",
            "drawn 2 2 = <x<a@b>y>", "drawn 2 1 = <a#b>", "drawn 1 2 = #", "drawn 3 2 = #");
        on("35: a FIELD of itself", "ab", "show 0 1 0 1 = 0", "put 0 1 1 200", "send 0 1", "drawn 0 0 = <a<a@b>b>");
        on("35: two of one another", "ab", "write 2 3 xy", "show 0 1 0 1 = 0", "show 2 3 0 1 = 1", "put 0 1 1 201", "send 0 1", "put 2 3 1 200", "send 2 3",
            "drawn 0 0 = <a#b>", "drawn 2 1 = <x#y>", "give 2 3 0 1", "give 0 1 2 1", "drawn 0 0 = <a<x@y>b>", "drawn 2 1 = <x<a@b>y>");
    }

    /** The cells 0 to 11 of a second SHEET, of the person 0, hold so many digits in all that its show has so many characters. */
    private static Script sized(String about, int characters) {
        Script s = on(about, "", "make 0 0", "set 0 0 0 number 1000", "formula 0 4 {0..7} 2 0 0 0 0");
        int left = characters - 2 - 11 - 7 * 8;
        int[] filled = {0, 9, 99, 999};
        for (int cell = 8; left > 0; cell++) {
            int digits = Math.min(left, 3);
            s.on("set 0 4 " + cell + " number " + filled[digits]);
            left -= digits;
        }
        return s.on("show 0 4 0 11 = 0");
    }

    private static void eighty() {
        String seven = "<" + "1000000,".repeat(8);
        sized("35: 79 characters", 79).on("shown 0 0 = 79", "drawn 0 0 = " + seven + "999,999,999,9>", "shownAt 0 0 78 = >", "shownAt 0 0 79 ! index");
        sized("35: 80 characters", 80).on("shown 0 0 = 80", "drawn 0 0 = " + seven + "999,999,999,99>", "shownAt 0 0 79 = >", "shownAt 0 0 80 ! index");
        sized("35: 81 characters", 81).on("shown 0 0 = 80", "drawn 0 0 = " + seven + "999,999,999,999", "shownAt 0 0 79 = 9", "shownAt 0 0 80 ! index");
        sized("35: 81, frozen", 81).on("freeze 0 0 = true", "shown 0 0 = 80", "drawn 0 0 = " + seven + "999,999,999,999", "freeze 0 0 = false", "shown 0 0 = 80");
        sized("35: 81, then fewer", 81).on("shown 0 0 = 80", "set 0 4 11 number 1", "shown 0 0 = 79", "set 0 4 11 blank 0", "shown 0 0 = 78");
    }

    private static void eightyInAField() {
        String seven = "<" + "1000000,".repeat(8);
        for (int characters = 78; characters <= 82; characters++) {
            String inner = (seven + "999,999,999,999".substring(0, Math.min(characters, 81) - 66) + (characters < 81 ? ">" : "")).substring(0, Math.min(characters, 80));
            String outer = "<" + inner + ">";
            sized("35: a FIELD of " + characters, Math.min(characters, 81)).on("put 0 1 0 200", "send 0 1", "show 0 1 0 0 = 1",
                "drawn 0 1 = " + outer.substring(0, Math.min(outer.length(), 80)), "flatText 0 1 0 = " + inner);
        }
        sized("35: two FIELDs of 80", 80).on("put 0 1 {0,1} 200", "put 0 1 2 3", "send 0 1", "show 0 1 0 2 = 1", "shown 0 1 = 80",
            "drawn 0 1 = <" + seven + "999,999,999,99", "flat 0 1 0 = 161", "flatAt 0 1 0 80 = <", "flatAt 0 1 0 160 = d", "flatAt 0 1 0 161 ! index");
        sized("35: forty FIELDs of 80", 80).on("write 0 1 " + "0".repeat(40), "flat 0 1 0 = 3200", "flatAt 0 1 0 3199 = >", "flatAt 0 1 0 3200 ! index",
            "show 0 1 0 39 = 1", "shown 0 1 = 80");
        on("35: letters up to the 80th", LONG, "show 0 1 0 37 = 0", "put 0 1 38 200", "send 0 1", "show 0 1 0 38 = 1",
            "drawn 0 1 = <" + LONG + "<" + LONG + ">>", "put 0 1 38 25", "send 0 1", "shown 0 1 = 80", "drawn 0 0 = <" + LONG + ">");
        on("35: the > as the 80th", LONG, "show 0 1 0 37 = 0", "put 0 1 38 200", "send 0 1", "show 0 1 0 38 = 1", "shown 0 1 = 80", "shownAt 0 1 79 = >",
            "put 0 1 1 25", "send 0 1", "shown 0 1 = 80", "shownAt 0 1 79 = l", "shown 0 0 = 41");
    }

    private static void rightsToSee() {
        on("35: with NOTHING", "ab", "show 0 0 0 1 = 0", "show 0 1 0 1 = 1", "shown {2,3} {0,1} = 1", "drawn {2,3} {0,1} = #", "shownAt 2 0 0 = #",
            "shownAt 2 0 {-1,1} ! index");
        on("35: with SEE and more", "ab", "show 0 1 0 1 = 0").each(1, 3, "give 0 1 3 %d", "drawn 3 0 = <ab>").on("give 0 1 3 0", "drawn 3 0 = #",
            "freeze 0 0", "drawn 3 0 = #", "give 0 1 3 1", "drawn 3 0 = <ab>");
        on("35: frozen, as to one who has all rights", "ab", "write 2 3 xy", "show 2 3 0 1 = 0", "put 0 1 1 200", "send 0 1", "show 0 1 0 2 = 1", "drawn 0 1 = <a#b>",
            "freeze 1 1 = true", "drawn {0,1} 1 = <a<xy>b>", "drawn {2,3} 1 = #", "freeze 0 1 = false", "drawn 0 1 = <a#b>");
    }

    private static void askedFor() {
        on("35: no such show", "ab", "shown 0 {-1,0,1} ! index", "show 0 1 0 1", "shown 0 0 = 4", "shown 0 {-1,1,9,10,MIN,MAX} ! index");
        on("35: no such person", "ab", "show 0 1 0 1", "shown {-1,4,MIN,MAX} {0,1} ! index");
        on("36: the first and the last character", "ab", "show 0 1 0 1", "shownAt 0 0 0 = <", "shownAt 0 0 1 = a", "shownAt 0 0 2 = b", "shownAt 0 0 3 = >",
            "shownAt 0 0 {-1,4,80,MIN,MAX} ! index");
        on("36: of nothing", "ab", "show 0 1 0 0", "out 0 1 0", "send 0 1", "shownAt 0 0 0 = <", "shownAt 0 0 1 = >", "shownAt 0 0 2 ! index");
        on("36: no such show", "ab", "shownAt 0 {-1,0,1} 0 ! index", "show 0 1 0 1", "shownAt 0 {-1,1,9,10,MIN,MAX} {-1,0,4} ! index");
        on("36: no such person", "ab", "show 0 1 0 1", "shownAt {-1,4,MIN,MAX} {0,1} {0,4} ! index");
    }

    private static void redrawn() {
        on("37: none", "ab", "redrawn = 0", "redrawn = 0");
        on("37: those that were made since", "ab", "show 0 0 0 0", "redrawn = 1", "redrawn = 0", "show 0 0 0 0", "show 0 1 0 1", "redrawn = 2", "redrawn = 0");
        on("37: ten", "ab").each(0, 9, "show 0 0 0 0 = %d").on("redrawn = 10", "redrawn = 0", "set 0 0 0 number 1", "redrawn = 10", "redrawn = 0");
        on("37: as many characters, but other ones", "ab", "set 0 0 0 number 1", "show 0 0 0 1 = 0", "redrawn = 1", "set 0 0 0 number 2", "redrawn = 1",
            "set 0 0 0 blank 0", "redrawn = 1", "set 0 0 1 number 2", "redrawn = 1", "set 0 0 0 number 0", "redrawn = 1");
        on("37: the same again", "ab", "set 0 0 0 number 1", "show 0 0 0 0 = 0", "redrawn = 1", "set 0 0 0 number 2", "set 0 0 0 number 1", "redrawn = 0");
        on("37: one error or another one", "ab", "formula 0 0 0 4 0 3 0 0", "show 0 0 0 0 = 0", "redrawn = 1", "set 0 0 3 number 2", "value 0 0 0 = 2", "redrawn = 0");
        on("37: tokens moved, but the same", "ab", "show 0 1 1 1 = 0", "redrawn = 1", "put 0 1 0 25", "send 0 1", "redrawn = 0", "out 0 1 2", "redrawn = 0", "send 0 1",
            "redrawn = 1", "redrawn = 0");
    }

    private static void redrawnOnes() {
        on("37: by a FIELD", "ab", "show 0 0 0 0 = 0", "put 0 1 1 200", "send 0 1", "show 0 1 0 2 = 1", "redrawn = 2", "set 0 0 0 number 1", "redrawn = 2");
        on("37: not by a FIELD within another one", "ab", "show 0 0 0 0 = 0", "put 0 1 1 200", "send 0 1", "show 0 1 0 2 = 1", "make 0 1", "write 0 4 1",
            "show 0 4 0 0 = 2", "redrawn = 3", "set 0 0 0 number 1", "redrawn = 2");
        on("37: frozen ones", "ab", "show 0 0 0 0 = 0", "redrawn = 1", "freeze 0 0", "redrawn = 0", "set 0 0 0 number 1", "redrawn = 0", "freeze 0 0", "redrawn = 1",
            "freeze 0 0", "redrawn = 0");
        on("37: by rights that change nothing", "ab", "show 2 3 0 0 ! index", "show 0 1 0 1 = 0", "redrawn = 1", "give 0 1 {1..3} 0", "give 0 1 {1..3} 3", "redrawn = 0");
        on("37: by rights that hide a SHEET", "ab", "make 2 0", "set 2 4 0 number 5", "give 2 4 0 1", "formula 0 0 0 0 4 0 4 1", "show 0 0 0 0 = 0", "redrawn = 1",
            "drawn 0 0 = <5>", "give 2 4 0 0", "redrawn = 1", "drawn 0 0 = <!>", "give 2 4 0 3", "redrawn = 1");
        on("37: asking for what is shown is not asking for this", "ab", "show 0 0 0 0 = 0", "redrawn = 1", "set 0 0 0 number 1", "drawn 0 0 = <1>", "redrawn = 1");
        on("37: to someone who has all rights", "ab", "make 2 0", "show 2 4 0 0 = 0", "put 0 1 1 200", "send 0 1", "show 0 1 0 2 = 1", "redrawn = 2", "drawn 0 0 = #",
            "drawn 0 1 = <a#b>", "redrawn = 0", "set 2 4 0 number 5", "redrawn = 2", "drawn 0 1 = <a#b>", "redrawn = 0", "give 2 4 0 1", "drawn 0 1 = <a<5>b>", "redrawn = 0");
        sized("37: behind the 80th", 81).on("redrawn = 1", "set 0 4 11 number 998", "redrawn = 1", "set 0 4 11 number 1000", "redrawn = 1", "formula 0 4 11 2 0 0 0 0",
            "redrawn = 0");
    }
}
