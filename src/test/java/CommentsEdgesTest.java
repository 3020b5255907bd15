/** The edges of the promises 26 to 29: comment, about, close and take. */
public final class CommentsEdgesTest {
    /** A TEXT of the person 0, to which 1 has EDIT and 2 NOTE, a SHEET, a DECK, and a TEXT of the person 1. */
    private static final String[] PARTS = {"make 0 1", "make 0 0", "make 0 2", "make 1 1", "give 0 0 1 3", "give 0 0 2 2"};
    private static final String FORTY = "abcdefghijklmnopqrstuvwxyzabcdefghijklmn";

    public static void main(String[] args) {
        tokens();
        suggested();
        twelve();
        whoMayComment();
        firstOfTheReasonsNotToComment();
        aboutWhat();
        movedByPuttingIn();
        movedByTakingOut();
        closedByTakingOut();
        closing();
        whoMayClose();
        taking();
        takingAFullRow();
        takingWhenItIsClosed();
        longLogsByTaking();
        whoMayTake();
        Check.end("CommentsEdgesTest");
    }

    private static Script on(String about, String row, String... rows) {
        return new Script(about, PARTS).on(row.isEmpty() ? "length 0 = 0" : "write 0 0 " + row, "send 1 0").on(rows);
    }

    private static void tokens() {
        on("26: of an empty row", "", "comment 0 0 {-1,0,1} {-1,0,1} -1 ! index");
        on("26: of a row of one", "a", "comment 0 0 0 0 -1 = 0", "about 0 = 1", "comment 0 0 {-1,1} {0,1} -1 ! index", "comment 0 0 0 {-1,1} -1 ! index");
        on("26: the first and the last token", "abc", "comment 0 0 0 0 -1 = 0", "comment 0 0 2 2 -1 = 1", "comment 0 0 0 2 -1 = 2", "about 0 = 1",
            "about 1 = 201", "about 2 = 3");
        on("26: no such token", "abc", "comment 0 0 {-1,3,MIN,MAX} 2 -1 ! index", "comment 0 0 0 {-1,3,MIN,MAX} -1 ! index",
            "comment 0 0 {-1,3,MIN,MAX} {-1,3,MIN,MAX} -1 ! index");
        on("26: the last one below the first one", "abc", "comment 0 0 1 0 -1 ! index", "comment 0 0 2 {0,1} -1 ! index", "comment 0 0 2 2 -1 = 0");
        on("26: of the row, not of the view", "a", "put 0 0 1 1", "comment 0 0 0 1 -1 ! index", "out 0 0 0", "out 0 0 0", "comment 0 0 0 0 -1 = 0");
        on("26: all of forty", FORTY, "comment 0 0 0 39 -1 = 0", "about 0 = 40", "comment 0 0 39 39 -1 = 1", "about 1 = 3901", "comment 0 0 0 40 -1 ! index",
            "comment 0 0 40 40 -1 ! index");
        on("26: no such TEXT", "abc", "comment 0 {-1,1,2,4,6,MIN,MAX} 0 0 -1 ! index");
        on("26: no such person", "abc", "comment {-1,4,MIN,MAX} 0 0 0 -1 ! index");
    }

    private static void suggested() {
        on("26: the first and the last letter, or none", "abc", "comment 0 0 0 0 {-1,0,25}", "take 0 0 ! state", "take 0 1 = 5", "row 0 = abc");
        on("26: the last letter", "abc", "comment 0 0 1 1 25", "take 0 0 = 5", "row 0 = azc");
        on("26: no such letter", "abc", "comment 0 0 0 0 {-2,26,100,200,MIN,MAX} ! argument");
    }

    private static void twelve() {
        on("26: twelve", "abc").each(0, 11, "comment 2 0 0 1 %d = %d").on("comment {0,1,2} 0 0 0 {-1,0} ! state", "about 11 = 2", "about 12 ! index",
            "close 2 11 = true", "comment 0 0 0 0 -1 ! state");
        on("26: twelve in two TEXTs", "abc", "write 1 3 abc").each(0, 5, "comment 0 0 0 0 -1", "comment 1 3 0 0 -1").on("comment 0 0 0 0 -1 ! state",
            "comment 1 3 0 0 -1 ! state");
    }

    private static void whoMayComment() {
        on("26: less than NOTE", "abc").each(0, 1, "give 0 0 3 %d", "comment 3 0 0 2 {-1,25} ! right").each(2, 3, "give 0 0 3 %d", "comment 3 0 0 2 {-1,25}");
        on("26: NOTE to another TEXT", "abc", "write 1 3 abc", "comment 2 3 0 0 -1 ! right", "comment 0 3 0 0 -1 ! right");
    }

    private static void firstOfTheReasonsNotToComment() {
        on("26: with several reasons", "abc").each(0, 11, "comment 2 0 0 1 %d = %d").on("comment {-1,4} 0 {0,3} 0 {0,26} ! index",
            "comment {0,3} {-1,1,2,4} 0 0 {0,26} ! index", "comment {0,3} 0 {-1,2} {1,3} {0,26} ! index", "comment {0,3} 0 0 2 {-2,26} ! argument",
            "comment 3 0 0 2 {-1,25} ! right", "comment 0 0 0 2 {-1,25} ! state");
    }

    private static void aboutWhat() {
        on("27: none", "abc", "about {-1,0,11,12,MIN,MAX} ! index");
        on("27: the last one", "abc", "comment 0 0 0 0 -1", "about 0 = 1", "about {-1,1,MIN,MAX} ! index");
        on("27: closed", "abc", "comment 0 0 0 0 -1", "close 0 0 = true", "about 0 = -1");
    }

    /** A comment about the tokens 2 to 4 of "abcdefg", another one about 2 alone, and an edit. */
    private static void moved(String edit, int three, int one) {
        on("27: moved by " + edit, "abcdefg", "comment 0 0 2 4 -1", "comment 0 0 2 2 -1", edit, "about 0 = 203", "about 1 = 201", "send 1 0", "about 0 = " + three,
            "about 1 = " + one);
    }

    private static void movedByPuttingIn() {
        moved("put 1 0 0 25", 303, 301);
        moved("put 1 0 1 25", 303, 301);
        moved("put 1 0 2 25", 303, 301);
        moved("put 1 0 3 25", 204, 201);
        moved("put 1 0 4 25", 204, 201);
        moved("put 1 0 5 25", 203, 201);
        moved("put 1 0 7 25", 203, 201);
        on("27: up to forty", FORTY.substring(0, 38), "comment 0 0 0 37 -1", "put 1 0 37 3", "send 1 0", "about 0 = 39", "put 0 0 1 3", "send 0 0", "about 0 = 40");
        on("27: to the end of the row", FORTY.substring(0, 39), "comment 0 0 38 38 -1", "put 1 0 0 3", "send 1 0", "about 0 = 3901");
        on("27: by an edit that becomes void", FORTY, "comment 0 0 2 4 -1", "out 0 0 39", "put 0 0 0 1", "out 1 0 39", "put 1 0 0 2", "send 0 0", "about 0 = 303",
            "send 1 0", "about 0 = 303");
        on("27: in another TEXT", "abc", "comment 0 0 1 1 -1", "write 1 3 abc", "about 0 = 101");
    }

    private static void movedByTakingOut() {
        moved("out 1 0 0", 103, 101);
        moved("out 1 0 1", 103, 101);
        moved("out 1 0 2", 202, -1);
        moved("out 1 0 3", 202, 201);
        moved("out 1 0 4", 202, 201);
        moved("out 1 0 5", 203, 201);
        moved("out 1 0 6", 203, 201);
        on("27: to the beginning of the row", "abc", "comment 0 0 2 2 -1", "out 1 0 0", "out 1 0 0", "send 1 0", "about 0 = 1");
    }

    private static void closedByTakingOut() {
        on("27: when it has none left", "abc", "comment 0 0 1 2 3", "out 1 0 2", "send 1 0", "about 0 = 101", "out 1 0 1", "send 1 0", "about 0 = -1",
            "close 0 0 = false", "undo 1 0", "row 0 = ab", "about 0 = -1", "take 0 0 ! state", "put 1 0 0 3", "send 1 0", "about 0 = -1");
        on("27: all of the row", "abc", "comment 0 0 0 2 3", "out 1 0 {0,0,0}", "send 1 0", "about 0 = -1", "length 0 = 0");
        on("27: by undoing", "abc", "put 1 0 1 5", "send 1 0", "comment 0 0 1 1 3", "undo 1 0 = true", "about 0 = -1");
        on("27: moved by undoing", "abc", "put 1 0 0 5", "send 1 0", "comment 0 0 2 3 3", "undo 1 0 = true", "about 0 = 102");
    }

    private static void closing() {
        on("28: open, then closed", "abc", "comment 0 0 0 0 -1", "close 0 0 = true", "close 0 0 = false", "about 0 = -1");
        on("28: no such comment", "abc", "close 0 {-1,0,1} ! index", "comment 0 0 0 0 -1", "close 0 {-1,1,12,MIN,MAX} ! index");
        on("28: no such person", "abc", "comment 0 0 0 0 -1", "close {-1,4,MIN,MAX} {0,1} ! index");
        on("28: the twelfth", "abc").each(0, 11, "comment 2 0 0 1 %d = %d").on("close 0 12 ! index", "close 0 11 = true", "about 11 = -1", "about 10 = 2");
    }

    private static void whoMayClose() {
        on("28: its maker, with any right").each(0, 3, "give 0 0 2 2", "comment 2 0 0 0 -1 = %d", "give 0 0 2 %d", "close 2 %d = true");
        on("28: another one, with less than EDIT", "abc", "comment 0 0 0 0 -1").each(0, 2, "give 0 0 3 %d", "close 3 0 ! right").on("give 0 0 3 3",
            "close 3 0 = true", "give 0 0 3 2", "close 3 0 ! right");
        on("28: the owner, one that another one made", "abc", "comment 2 0 0 0 -1", "close 0 0 = true");
        on("28: EDIT to another TEXT", "abc", "write 1 3 a", "comment 1 3 0 0 -1", "close 0 0 ! right", "give 1 3 0 3", "close 0 0 = true");
        on("28: with several reasons", "abc", "comment 0 0 0 0 -1", "close {-1,4} {0,1} ! index", "close 3 {-1,1} ! index", "close {2,3} 0 ! right");
    }

    private static Script on(String about) {
        return on(about, "abc");
    }

    private static void taking() {
        on("29: one token", "abc", "comment 0 0 1 1 25", "take 1 0 = 5", "row 0 = azc", "about 0 = -1", "viewed 1 0 = azc", "see 1 0 = 0", "see 0 0 = 1");
        on("29: all tokens", "abc", "comment 0 0 0 2 25", "take 1 0 = 7", "row 0 = z", "rowByLog 0 = z", "see 0 0 = 3", "viewed 0 0 = ab", "see 0 0 = 2",
            "viewed 0 0 = a", "see 0 0 = 1", "viewed 0 0 = ", "see 0 0 = 0", "viewed 0 0 = z");
        on("29: the first one", "abc", "comment 0 0 0 0 25", "take 1 0 = 5", "row 0 = zbc");
        on("29: the last one", "abc", "comment 0 0 2 2 25", "take 1 0 = 5", "row 0 = abz");
        on("29: where it is then", "abc", "comment 0 0 1 1 25", "put 0 0 1 3", "put 0 0 0 3", "send 0 0", "take 1 0 = 7", "row 0 = dadzc");
        on("29: with what became one of them", "abc", "comment 0 0 0 1 25", "put 0 0 1 3", "send 0 0", "take 1 0 = 8", "row 0 = zc");
        on("29: what the taker did not send", "abc", "comment 0 0 1 1 25", "put 1 0 2 3", "put 1 0 0 3", "take 1 0 = 7", "row 0 = dazdc");
        on("29: what another one did not send", "abc", "comment 0 0 1 1 25", "put 0 0 2 3", "out 0 0 1", "take 1 0 = 5", "row 0 = azc", "send 0 0 = 7",
            "row 0 = adzc");
        on("29: undone by the one who took it", "abc", "comment 0 0 0 1 25", "take 1 0 = 6", "undo 0 0 = true", "row 0 = z", "undo 1 0 = true",
            "row 0 = ", "undo 1 0 = true", "row 0 = a");
        on("29: behind an undo", "abc", "put 1 0 3 3", "undo 1 0 = true", "comment 0 0 1 1 25", "take 1 0 = 7", "undo 1 0 = true", "row 0 = ac", "undo 1 0 = true", "row 0 = abc");
        on("29: what others are about", "abcde", "comment 0 0 1 2 25", "comment 0 0 0 4 24", "comment 0 0 2 3 24", "comment 0 0 1 2 24", "comment 0 0 4 4 24",
            "take 1 0 = 8", "row 0 = azde", "about 1 = 4", "about 2 = 201", "about 3 = -1", "about 4 = 301");
    }

    private static void takingAFullRow() {
        on("29: in a row of forty", FORTY, "comment 0 0 39 39 25", "take 1 0 = 42", "row 0 = " + FORTY.substring(0, 39) + "z");
        on("29: all of forty", FORTY, "comment 0 0 0 39 25", "take 1 0 = 81", "row 0 = z");
        on("29: with own edits that fill it", FORTY.substring(0, 38), "comment 0 0 0 0 25", "put 1 0 38 1", "put 1 0 38 2", "put 0 0 38 3", "send 0 0",
            "take 1 0 = 43", "length 0 = 40", "row 0 = z" + FORTY.substring(1, 38) + "db");
    }

    private static void takingWhenItIsClosed() {
        on("29: closed", "abc", "comment 0 0 1 1 25", "close 0 0", "take {0,1} 0 ! state");
        on("29: taken already", "abc", "comment 0 0 1 1 25", "take 1 0 = 5", "take {0,1} 0 ! state");
        on("29: closed, when the person has sent", "abc", "comment 0 0 1 1 25", "out 1 0 1", "put 1 0 0 3", "take 1 0 ! state", "view 1 0 = 3", "log 0 = 3",
            "about 0 = 101", "send 0 0", "take 0 0 = 5");
        on("29: not closed, though the person takes some out", "abc", "comment 0 0 1 2 25", "out 1 0 1", "take 1 0 = 6", "row 0 = az");
        on("29: suggests nothing", "abc", "comment 0 0 1 1 -1", "put 1 0 0 3", "take {0,1} 0 ! state", "log 0 = 3", "viewed 1 0 = dabc");
        on("29: closed and suggests nothing", "abc", "comment 0 0 1 1 -1", "close 0 0", "take {0,1} 0 ! state");
    }

    private static void longLogsByTaking() {
        on("29: 298 and two", "ab", "fill 0 1 0 298", "comment 0 0 1 1 25", "take 1 0 = 300", "row 0 = az");
        on("29: 299 and two", "ab", "fill 0 1 0 299", "comment 0 0 1 1 25", "take {0,1} 0 ! state", "log 0 = 299");
        on("29: 300 and two", "ab", "fill 0 1 0 300", "comment 0 0 1 1 25", "take {0,1} 0 ! state");
        on("29: 297 and three", "ab", "fill 0 1 0 297", "comment 0 0 0 1 25", "take 1 0 = 300", "row 0 = z");
        on("29: 298 and three", "ab", "fill 0 1 0 298", "comment 0 0 0 1 25", "take {0,1} 0 ! state");
        on("29: 297, one that is sent, and two", "ab", "fill 0 1 0 297", "comment 0 0 1 1 25", "put 1 0 0 5", "take 1 0 = 300", "row 0 = faz");
        on("29: 298, one that is sent, and two", "ab", "fill 0 1 0 298", "comment 0 0 1 1 25", "put 1 0 0 5", "take 1 0 ! state", "viewed 1 0 = fab",
            "take 0 0 = 300");
        on("29: 297, one that is sent, and three by it", "abc", "fill 0 1 0 297", "comment 0 0 0 1 25", "put 1 0 1 5", "take 1 0 ! state", "about 0 = 2",
            "take 0 0 = 300", "row 0 = zc");
        on("29: 297, one of them that is sent, and two", "abc", "fill 0 1 0 297", "comment 0 0 0 1 25", "out 1 0 1", "take 1 0 = 300", "row 0 = zc");
        on("29: 258 and forty-one", FORTY, "fill 0 1 0 259", "comment 0 0 0 39 25", "take 1 0 = 300", "row 0 = z");
        on("29: 259 and forty-one", FORTY, "fill 0 1 0 260", "comment 0 0 0 39 25", "take 1 0 ! state", "length 0 = 40", "about 0 = 40");
        on("29: 300 and own edits", "ab", "fill 0 1 0 300", "comment 0 0 1 1 25", "put 1 0 0 5", "take 1 0 ! state", "viewed 1 0 = fab");
    }

    private static void whoMayTake() {
        on("29: less than EDIT", "abc", "comment 0 0 1 1 25").each(0, 2, "give 0 0 3 %d", "take 3 0 ! right").on("give 0 0 3 3", "take 3 0 = 5");
        on("29: its maker, with less than EDIT", "abc", "comment 2 0 1 1 25", "take 2 0 ! right", "give 0 0 2 0", "take 2 0 ! right");
        on("29: EDIT to another TEXT", "abc", "write 1 3 a", "comment 1 3 0 0 5", "take 0 0 ! right", "take 1 0 = 3", "row 3 = f");
        on("29: no such comment", "abc", "take 0 {-1,0,1} ! index", "comment 0 0 0 0 5", "take 0 {-1,1,12,MIN,MAX} ! index");
        on("29: no such person", "abc", "comment 0 0 0 0 5", "take {-1,4,MIN,MAX} {0,1} ! index");
        on("29: with several reasons", "ab", "fill 0 1 0 300", "comment 0 0 0 0 5", "comment 0 0 0 0 -1", "close 0 1", "take {-1,4} {0,1,2} ! index",
            "take {2,3} {-1,2} ! index", "take {2,3} {0,1} ! right", "take {0,1} {0,1} ! state");
    }
}
