/** The edges of the promises 38 to 41: flat, flatAt, takeIn and change. */
public final class FlatEdgesTest {
    /** A SHEET, a TEXT and a DECK of the person 0, to which 1 has SEE, and a TEXT of the person 0, to which 1 has EDIT. */
    private static final String[] PARTS = {"make 0 0", "make 0 1", "make 0 2", "make 0 1", "give 0 {0..2} 1 1", "give 0 3 1 3"};
    private static final String FORTY = "abcdefghijklmnopqrstuvwxyzabcdefghijklmn";

    public static void main(String[] args) {
        flatSheets();
        flatTexts();
        flatDecks();
        steps();
        whoMayReadFlat();
        charactersThereAre();
        takenInSheets();
        takenInTexts();
        takenInDecks();
        takenInForty();
        takenInBySending();
        longLogsByTakingIn();
        whoMayTakeIn();
        changed();
        changedBehindAnUndo();
        changedAhead();
        changedEverywhere();
        lettersToChange();
        longLogsByChanging();
        Check.end("FlatEdgesTest");
    }

    private static Script on(String about, String row, String... rows) {
        return new Script(about, PARTS).on(row.isEmpty() ? "length 1 = 0" : "write 0 1 " + row).on(rows);
    }

    private static void flatSheets() {
        on("38: all blank", "", "flat 0 0 0 = 11", "flatText 0 0 0 = ,,;,,;,,;,,");
        on("38: all numbers", "", "set 0 0 {0..11} number -1000", "flat 0 0 0 = 71", "flatText 0 0 0 = -1000,-1000,-1000;-1000,-1000,-1000;-1000,-1000,-1000;-1000,-1000,-1000");
        on("38: the first and the last cell", "", "set 0 0 {0,11} number 5", "flatText 0 0 0 = 5,,;,,;,,;,,5", "set 0 0 {2,3} number 6", "flatText 0 0 0 = 5,,6;6,,;,,;,,5");
        on("38: errors", "", "formula 0 0 {0,11} 4 0 5 0 0", "flatText 0 0 0 = !,,;,,;,,;,,!");
        on("38: more than 80", "", "make 0 0", "set 0 0 0 number 1000", "set 0 0 1 number -1000", "formula 0 4 {0..11} 2 0 0 0 1", "flat 0 4 0 = 107",
            "flatAt 0 4 0 106 = 0", "flatAt 0 4 0 107 ! index");
    }

    private static void flatTexts() {
        on("38: an empty row", "", "flat 0 1 0 = 0", "flatText 0 1 0 = ");
        on("38: forty letters", FORTY, "flat 0 1 0 = 40", "flatText 0 1 0 = " + FORTY);
        on("38: BREAKs", "HSBRaS", "flatText 0 1 0 = .100 .101 .0 .1 a.102 ");
        on("38: forty BREAKs", "H".repeat(40), "flat 0 1 0 = 231", "flatAt 0 1 0 225 = .", "flatAt 0 1 0 226 = 4", "flatAt 0 1 0 230 =  ");
        on("38: the row, not the view", "ab", "put 0 1 0 25", "flatText 0 1 0 = ab", "send 0 1", "flatText 0 1 0 = zab", "flatText 1 1 0 = zab");
        on("38: FIELDs", "ab", "show 0 0 0 1 = 0", "put 0 1 1 200", "send 0 1", "flatText 0 1 0 = a<,>b", "show 0 1 0 2 = 1", "put 0 1 3 201", "send 0 1",
            "flatText 0 1 0 = a<,>b<a@b>", "give 0 0 1 0", "flatText 1 1 0 = a#b<a@b>", "freeze 0 1", "flatText 1 1 0 = a#b<a<,>b>");
    }

    private static void flatDecks() {
        on("38: no slides", "ab", "show 0 1 0 0", "box 0 2 -1 0 0 0", "flat 0 2 {0..3} = 0");
        on("38: six slides with three boxes", "ab", "show 0 1 0 0", "box 0 2 -1 {0..2} 0 0", "slide 0 2 {0..5}", "flat 0 2 0 = 60",
            "flatText 0 2 0 = " + "=<a><a><a>".repeat(6));
        on("38: boxes of 80", "", "make 0 0", "set 0 0 0 number 1000", "set 0 0 1 number -1000", "formula 0 4 {0..11} 2 0 0 0 1", "show 0 4 0 11",
            "box 0 2 -1 {0..2} 0 0", "slide 0 2 {0..5}", "flat 0 2 0 = 1446", "flatAt 0 2 0 1445 = 0", "flatAt 0 2 0 1446 ! index");
        on("38: without the right to what is shown", "ab", "show 0 1 0 0", "slide 0 2 0", "box 0 2 0 1 0 0", "give 0 1 1 0", "flatText 1 2 0 = =#", "flatText 0 2 0 = =<a>");
        on("38: FIELDs in a box", "ab", "show 0 1 0 1", "put 0 1 1 200", "send 0 1", "slide 0 2 0", "box 0 2 0 1 0 0", "flatText 0 2 0 = =<a<a@b>b>");
    }

    private static void steps() {
        on("38: the least and the greatest", "ab", "flat 0 0 {0,3} = 11", "flat 0 1 {0,3} = 2", "flat 0 2 {0,3} = 0");
        on("38: out of range in any case", "ab", "flat 0 {0,1,2,3} {-1,4,MIN,MAX} ! argument");
        on("39: out of range in any case", "ab", "flatAt 0 {0,1,2,3} {-1,4,MIN,MAX} {-1,0,1,99} ! argument");
        on("38: a box with a greater one is not shown yet", "ab", "show 0 1 0 0", "slide 0 2 0", "box 0 2 0 0 0 0", "box 0 2 0 1 0 2", "box 0 2 0 2 0 3",
            "flatText 0 2 {0,1} = =<a>", "flatText 0 2 2 = =<a><a>", "flatText 0 2 3 = =<a><a><a>", "flat 0 2 {0,1} = 4", "flat 0 2 2 = 7", "flat 0 2 3 = 10",
            "flatAt 0 2 1 4 ! index", "flatAt 0 2 2 4 = <", "flatAt 0 2 2 7 ! index");
    }

    private static void whoMayReadFlat() {
        on("38: with NOTHING", "ab", "flat {2,3} {0..3} {0,3} ! right", "flatAt {2,3} {0..3} {0,3} {-1,0,99} ! right");
        on("38: with SEE and more", "ab").each(1, 3, "give 0 {0..3} 2 %d", "flat 2 {0,1} 0", "flatAt 2 {0,1} 3 0");
        on("38: no such part", "ab", "flat 0 {-1,4,5,6,MIN,MAX} {0,4} ! index");
        on("39: no such part", "ab", "flatAt 0 {-1,4,5,6,MIN,MAX} {0,4} 0 ! index");
        on("38: no such person", "ab", "flat {-1,4,MIN,MAX} {0,1} {0,4} ! index");
        on("39: no such person", "ab", "flatAt {-1,4,MIN,MAX} {0,1} {0,4} 0 ! index");
        on("38: with several reasons", "ab", "flat {-1,2,4} {-1,4} {0,4} ! index", "flat {1,2} {0..3} {-1,4} ! argument", "flat 2 {0..3} {0,3} ! right");
        on("39: with several reasons", "ab", "flatAt {-1,2,4} {-1,4} {0,4} {0,99} ! index", "flatAt {1,2} {0..3} {-1,4} {0,99} ! argument",
            "flatAt 2 {0..3} {0,3} {0,99} ! right", "flatAt 1 {0..3} {0,3} {-1,99} ! index");
    }

    private static void charactersThereAre() {
        on("39: of a SHEET", "", "flatAt 0 0 0 0 = ,", "flatAt 0 0 0 2 = ;", "flatAt 0 0 0 10 = ,", "flatAt 0 0 0 {-1,11,MIN,MAX} ! index");
        on("39: of a TEXT", "ab", "flatAt 0 1 0 0 = a", "flatAt 0 1 0 1 = b", "flatAt 0 1 {0,3} {-1,2,MIN,MAX} ! index", "flatAt 0 3 0 {-1,0} ! index");
        on("39: of a DECK", "ab", "flatAt 0 2 0 {-1,0} ! index", "slide 0 2 0", "flatAt 0 2 0 0 = =", "flatAt 0 2 0 {-1,1,MIN,MAX} ! index");
    }

    private static void takenInSheets() {
        on("40: a blank SHEET", "", "takeIn 0 0 3 = 3", "row 3 = BBB", "log 3 = 3", "rowByLog 3 = BBB", "viewed 0 3 = BBB", "see 0 3 = 0", "see 1 3 = 2");
        on("40: numbers and errors are left out", "", "set 0 0 {0..10} number -7", "formula 0 0 11 4 0 0 0 0", "takeIn 0 0 3 = 3", "row 3 = BBB");
    }

    private static void takenInTexts() {
        on("40: an empty one", "", "takeIn 0 1 3 = 0", "log 3 = 0", "write 0 3 ab", "takeIn 0 1 3 = 0", "row 3 = ", "log 3 = 4");
        on("40: letters and BREAKs", "azHSBR", "takeIn 0 1 3 = 6", "row 3 = azBBBB", "log 3 = 6");
        on("40: from the last one on", "ab", "write 0 3 xyz", "send 1 3", "takeIn 0 1 3 = 2", "log 3 = 8", "see 1 3 = 4", "viewed 1 3 = xy", "see 1 3 = 3", "viewed 1 3 = x",
            "see 1 3 = 2", "viewed 1 3 = ", "see 1 3 = 1", "viewed 1 3 = a", "see 1 3 = 0", "viewed 1 3 = ab");
        on("40: FIELDs as they are shown", "ab", "show 0 1 0 1", "put 0 1 1 200", "send 0 1", "takeIn 0 1 3 = 4", "row 3 = aabb");
        on("40: not what was drawn ahead of it", "ab", "make 0 1", "write 0 4 zyxwvu", "flatText 0 4 0 = zyxwvu", "takeIn 0 1 3 = 2", "row 3 = ab", "log 3 = 2");
        on("40: itself", "aHb", "takeIn 0 1 1 = 3", "row 1 = aBb", "log 1 = 9", "rowByLog 1 = aBb");
        on("40: comments and shows of what is taken out", "ab", "write 0 3 xy", "comment 0 3 0 1 5", "show 0 3 0 1", "takeIn 0 1 3 = 2", "about 0 = -1", "drawn 0 0 = <>");
        on("40: behind an undo", "ab", "write 0 3 xy", "undo 0 3 = true", "takeIn 0 1 3 = 2", "undo 0 3 = true", "row 3 = a", "undo 0 3 = true", "row 3 = ",
            "undo 0 3 = true", "row 3 = x");
        on("40: undone one by one", "ab", "write 0 3 xy", "takeIn 0 1 3 = 2", "undo 0 3 = true", "row 3 = a", "undo 0 3 = true", "row 3 = ", "undo 0 3 = true", "row 3 = x",
            "undo 0 3 = true", "row 3 = xy");
    }

    private static void takenInDecks() {
        on("40: no slides", "ab", "takeIn 0 2 3 = 0");
        on("40: with the step 3", "ab", "show 0 1 0 1", "slide 0 2 {0,1}", "box 0 2 0 0 0 0", "box 0 2 0 1 0 1", "box 0 2 0 2 0 2", "box 0 2 1 0 0 3", "takeIn 0 2 3 = 10",
            "row 3 = BabababBab");
        on("40: as the person sees it", "ab", "show 0 1 0 1", "slide 0 2 0", "box 0 2 0 0 0 0", "give 0 1 1 0", "takeIn 1 2 3 = 1", "row 3 = B", "takeIn 0 2 3 = 3", "row 3 = Bab");
    }

    private static void takenInForty() {
        on("40: forty", FORTY, "takeIn 0 1 3 = 40", "row 3 = " + FORTY, "log 3 = 40");
        on("40: forty again", FORTY, "write 0 3 " + FORTY, "takeIn 0 1 3 = 40", "row 3 = " + FORTY, "log 3 = 120");
        on("40: forty-one and more", FORTY.substring(0, 38), "show 0 1 0 1", "put 0 1 0 200", "send 0 1", "takeIn 0 1 3 = 40", "row 3 = ab" + FORTY.substring(0, 38), "log 3 = 40",
            "put 0 1 0 200", "send 0 1", "takeIn 0 1 3 = 40", "row 3 = abab" + FORTY.substring(0, 36), "log 3 = 120");
        on("40: BREAKs count", "H".repeat(40), "takeIn 0 1 3 = 40", "row 3 = " + "B".repeat(40));
        on("40: a DECK of more", FORTY.substring(0, 20), "show 0 1 0 19", "slide 0 2 {0..5}", "box 0 2 -1 0 0 0", "takeIn 0 2 3 = 40",
            "row 3 = B" + FORTY.substring(0, 20) + "B" + FORTY.substring(0, 18));
    }

    private static void takenInBySending() {
        on("40: the person sends first", "ab", "write 1 3 y", "put 0 3 0 25", "put 0 3 1 24", "takeIn 0 1 3 = 2", "row 3 = ab", "log 3 = 8", "viewed 0 3 = ab");
        on("40: what is sent is in it", "ab", "put 0 1 0 25", "takeIn 0 1 1 = 3", "row 1 = zab", "log 1 = 9");
        on("40: what another one did not send stays", "ab", "put 1 3 0 25", "takeIn 0 1 3 = 2", "viewed 1 3 = z", "send 1 3 = 3", "row 3 = abz");
        on("40: what was not sent to the part that is taken in", "ab", "put 0 1 0 25", "takeIn 0 1 3 = 2", "row 3 = ab", "viewed 0 1 = zab");
    }

    /** The log of the TEXT 3 is so long, behind which its row is that. */
    private static Script filled(String about, String row, int edits, String... rows) {
        return on(about, "ab", row.isEmpty() ? "length 3 = 0" : "write 0 3 " + row).on("fill 0 1 3 " + edits).on(rows);
    }

    private static void longLogsByTakingIn() {
        filled("40: 298 and two", "", 298, "takeIn 0 1 3 = 2", "log 3 = 300");
        filled("40: 299 and two", "", 299, "takeIn 0 1 3 ! state", "log 3 = 299");
        filled("40: 300 and none", "", 300, "takeIn 0 2 3 = 0", "log 3 = 300");
        filled("40: 300 and two", "", 300, "takeIn 0 1 3 ! state");
        filled("40: 295, three out and two in", "xyz", 295, "takeIn 0 1 3 = 2", "log 3 = 300", "row 3 = ab");
        filled("40: 296, three out and two in", "xyz", 296, "takeIn 0 1 3 ! state", "row 3 = xyz");
        filled("40: 297, three out", "xyz", 297, "takeIn 0 2 3 = 0", "log 3 = 300");
        filled("40: 298, three out", "xyz", 298, "takeIn 0 2 3 ! state", "row 3 = xyz", "comment 0 3 0 1 4", "takeIn 0 2 3 ! state", "about 0 = 2");
        filled("40: 296, one sent, one out and two in", "", 296, "put 0 3 0 25", "takeIn 0 1 3 = 2", "log 3 = 300");
        filled("40: 297, one sent, one out and two in", "", 297, "put 0 3 0 25", "takeIn 0 1 3 ! state", "viewed 0 3 = z", "length 3 = 0");
        filled("40: 300, one to be sent", "", 300, "put 0 3 0 25", "takeIn 0 2 3 ! state", "viewed 0 3 = z");
        filled("40: what is left out counts for nothing", "", 297, "takeIn 0 0 3 = 3", "log 3 = 300");
        filled("40: but all BREAKs count", "", 298, "takeIn 0 0 3 ! state", "log 3 = 298");
        filled("40: not what was drawn ahead of it", "", 298, "make 0 1", "write 0 4 zyxwvu", "flatText 0 4 0 = zyxwvu", "takeIn 0 1 3 = 2", "row 3 = ab", "log 3 = 300");
        filled("40: itself", "xyz", 294, "takeIn 0 3 3 = 3", "log 3 = 300");
        filled("40: itself, too long by one", "xyz", 295, "takeIn 0 3 3 ! state", "row 3 = xyz");
        on("40: those behind the 40th count for nothing", FORTY, "show 0 1 0 39", "make 0 1", "write 0 4 00", "fill 0 1 3 260", "takeIn 0 4 3 = 40", "log 3 = 300");
        on("40: forty, too long by one", FORTY, "fill 0 1 3 261", "takeIn 0 1 3 ! state", "length 3 = 0");
    }

    private static void whoMayTakeIn() {
        on("40: less than SEE to the part", "ab", "give 0 1 1 0", "takeIn 1 1 3 ! right").each(1, 3, "give 0 1 1 %d", "takeIn 1 1 3 = 2");
        on("40: less than EDIT to the TEXT", "ab").each(0, 2, "give 0 3 1 %d", "takeIn 1 1 3 ! right", "takeIn 1 3 3 ! right").on("give 0 3 1 3", "takeIn 1 1 3 = 2");
        on("40: no such part", "ab", "takeIn 0 {-1,4,6,MIN,MAX} {1,3} ! index");
        on("40: no such TEXT", "ab", "takeIn 0 {0,1} {-1,0,2,4,6,MIN,MAX} ! index");
        on("40: no such person", "ab", "takeIn {-1,4,MIN,MAX} 1 {0,3} ! index");
        filled("40: with several reasons", "x", 300, "takeIn {-1,4} {1,4} {0,3} ! index", "takeIn {0,2} {-1,4} {0,3} ! index", "takeIn {0,2} 1 {0,2,4} ! index",
            "takeIn {2,3} 1 3 ! right", "give 0 3 2 3", "takeIn 2 1 3 ! right", "give 0 1 2 1", "takeIn 2 1 3 ! state", "give 0 3 2 2", "takeIn 2 1 3 ! right");
    }

    private static void changed() {
        on("41: at the beginning and ahead of the end", "aba", "change 0 0 -1 25 = 1", "row 1 = zba", "log 1 = 5", "rowByLog 1 = zba");
        on("41: at the end there is nothing behind it", "ba", "change 0 0 -1 25 = 0", "change 0 0 {0..25} 25 = 0", "row 1 = ba", "log 1 = 2");
        on("41: a row of one, and an empty one", "a", "change 0 0 {-1,0} 25 = 0", "row 1 = a", "row 3 = ");
        on("41: ahead of a BREAK or a FIELD", "", "show 0 0 0 0", "write 0 1 aHaSaBaRa0", "change 0 0 -1 25 = 0");
        on("41: any letter behind it, the first and the last", "abbbaz", "change 0 0 -1 25 = 2", "row 1 = zbbbzz");
        on("41: the letter itself", "aab", "change 0 0 -1 0 = 2", "row 1 = aab", "log 1 = 7");
        on("41: all places are found ahead", "abab", "change 0 1 0 0 = 1", "row 1 = aaab", "change 0 0 0 1 = 2", "row 1 = bbab");
        on("41: 39 places", "a".repeat(40), "change 0 0 0 1 = 39", "row 1 = " + "b".repeat(39) + "a", "log 1 = 118");
        on("41: from the last one back, out and in", "abab", "give 0 1 1 3", "send 1 1", "change 0 0 1 25 = 2", "see 1 1 = 3", "viewed 1 1 = abb", "see 1 1 = 2",
            "viewed 1 1 = abzb", "see 1 1 = 1", "viewed 1 1 = bzb", "see 1 1 = 0", "viewed 1 1 = zbzb", "see 0 1 = 0");
        on("41: undone one by one", "abab", "change 0 0 1 25 = 2", "undo 0 1 = true", "row 1 = bzb", "undo 0 1 = true", "row 1 = abzb", "undo 0 1 = true", "row 1 = abb",
            "undo 0 1 = true", "row 1 = abab");
    }

    private static void changedBehindAnUndo() {
        on("41: behind an undo", "ab", "put 0 1 0 3", "undo 0 1 = true", "change 0 0 1 25 = 1", "undo 0 1 = true", "row 1 = b", "undo 0 1 = true", "row 1 = ab");
    }

    private static void changedAhead() {
        on("41: the first and the last letter", "azza", "change 0 25 0 0 = 1", "row 1 = azaa", "change 0 0 25 25 = 1", "row 1 = zzaa", "change 0 0 0 25 = 1",
            "row 1 = zzza", "change 0 25 25 0 = 2", "row 1 = aaza");
        on("41: right behind it alone", "abcb", "change 0 0 2 25 = 0", "change 0 0 1 25 = 1", "row 1 = zbcb");
    }

    private static void changedEverywhere() {
        on("41: in each TEXT with EDIT", "ab", "write 0 3 ab", "change 1 0 1 25 = 1", "row 1 = ab", "row 3 = zb", "change 2 0 1 25 = 0", "row 1 = ab").each(1, 2,
            "give 0 1 1 %d", "change 1 0 1 25 = 0").on("give 0 1 1 3", "change 1 0 1 25 = 1", "row 1 = zb");
        on("41: six TEXTs", "ab", "write 0 3 ab", "make 0 1", "make 0 1", "write 0 {4,5} ab", "change 0 0 1 25 = 4", "row {1,3,4,5} = zb", "log {1,3,4,5} = 4");
        new Script("41: in the first part too", "make 0 1", "make 0 1", "write 0 {0,1} ab", "change 0 0 1 25 = 2", "row {0,1} = zb", "log {0,1} = 4");
        on("41: the person sends in each of them", "ab", "put 0 1 0 25", "put 0 3 0 25", "put 1 3 0 24", "change 0 7 -1 8 = 0", "row 1 = zab", "row 3 = z", "viewed 1 3 = y",
            "change 1 7 -1 8 = 0", "row 3 = zy");
        on("41: with what is sent", "b", "put 0 1 0 0", "change 0 0 1 25 = 1", "row 1 = zb", "log 1 = 4");
        on("41: without TEXTs to which there is EDIT", "ab", "put 0 1 0 25", "change 3 0 -1 25 = 0", "row 1 = ab", "viewed 0 1 = zab");
    }

    private static void lettersToChange() {
        on("41: no such letter", "ab", "change 0 {-1,26,100,200,MIN,MAX} 0 0 ! argument", "change 0 0 0 {-1,26,100,200,MIN,MAX} ! argument");
        on("41: no such letter behind it", "ab", "change 0 0 {-2,26,100,MIN,MAX} 0 ! argument");
        on("41: no such person", "ab", "change {-1,4,MIN,MAX} {0,26} {-1,26} {0,26} ! index");
        on("41: with several reasons", "ab", "fill 0 0 1 300", "put 0 1 0 3", "change {-1,4} 0 0 0 ! index", "change 0 {-1,26} 0 0 ! argument", "change 0 0 {-2,26} 0 ! argument",
            "change 0 0 0 {-1,26} ! argument", "change 0 0 0 0 ! state", "change {1..3} 0 0 0 = 0");
    }

    private static void longLogsByChanging() {
        filled("41: 298 and two", "ab", 298, "change 1 0 1 25 = 1", "log 3 = 300", "row 3 = zb");
        filled("41: 299 and two", "ab", 299, "change 1 0 1 25 ! state", "log 3 = 299", "row 3 = ab", "change 1 0 2 25 = 0");
        filled("41: 300 and none", "ab", 300, "change 1 0 2 25 = 0", "change 1 0 1 25 ! state");
        filled("41: 296 and four", "abab", 296, "change 1 0 1 25 = 2", "log 3 = 300");
        filled("41: 297 and four", "abab", 297, "change 1 0 1 25 ! state", "row 3 = abab");
        filled("41: 297, one to be sent and two", "ab", 297, "put 1 3 2 25", "change 1 0 1 25 = 1", "log 3 = 300", "row 3 = zbz");
        filled("41: 298, one to be sent and two", "ab", 298, "put 1 3 2 25", "change 1 0 1 25 ! state", "viewed 1 3 = abz", "row 3 = ab");
        filled("41: 300, one to be sent", "ab", 300, "put 1 3 2 25", "change 1 7 1 25 ! state", "viewed 1 3 = abz");
        filled("41: too long in a later TEXT", "ab", 300, "put 0 1 0 3", "comment 0 1 0 0 5", "show 0 1 0 1", "change 0 0 1 25 ! state", "row 1 = ab", "viewed 0 1 = dab",
            "about 0 = 1", "drawn 0 0 = <ab>");
        new Script("41: too long in the second of two TEXTs", "make 0 1", "make 0 1", "give 0 {0,1} 1 3", "write 0 {0,1} abab", "fill 0 1 1 300", "put 0 0 0 3",
            "comment 0 0 0 1 5", "change 0 0 1 25 ! state", "row 0 = abab", "log 0 = 4", "viewed 0 0 = dabab", "about 0 = 2", "rowByLog 0 = abab");
        new Script("41: what was refused is not undone", "make 0 1", "make 0 1", "give 0 {0,1} 1 3", "write 0 {0,1} abab", "fill 0 1 1 300", "change 0 0 1 25 ! state",
            "undo 0 0 = true", "row 0 = aba", "log 0 = 5", "undo 0 0 = true", "row 0 = ab", "rowByLog 0 = ab");
        on("41: too long in an earlier TEXT", "ab", "fill 0 0 1 300", "write 0 3 ab", "put 0 3 0 3", "change 0 0 1 25 ! state", "row 3 = ab", "viewed 0 3 = dab",
            "change 1 0 1 25 = 1", "row 3 = zb");
    }
}
