/** The edges of the promises 11 to 17: put, out, see, send, undo, view and viewAt. */
public final class EditsEdgesTest {
    /** A TEXT and a SHEET of the person 0, a DECK and a TEXT of the person 1; all have EDIT to the first. */
    private static final String[] PARTS = {"make 0 1", "make 0 0", "make 1 2", "make 1 1", "give 0 0 {1..3} 3"};
    private static final String FORTY = "abcdefghijklmnopqrstuvwxyzabcdefghijklmn";

    public static void main(String[] args) {
        putPlaces();
        putTokens();
        putFields();
        sixOwnEdits();
        fortyInAView();
        fortySixInAView();
        whoMayPut();
        firstOfTheReasonsNotToPut();
        outPlaces();
        sixOuts();
        whoMayTakeOut();
        seeing();
        whoMaySee();
        turning();
        turningVoidOnes();
        turningSixInARow();
        sending();
        sendingToAFullRow();
        longLogsBySending();
        whoMaySend();
        nothingToUndo();
        undoing();
        undoingWhatWasMoved();
        undoingInAFullRow();
        longLogsByUndoing();
        whoMayUndo();
        views();
        Check.end("EditsEdgesTest");
    }

    private static Script on(String about, String row, String... rows) {
        return new Script(about, PARTS).on(row.isEmpty() ? "length 0 = 0" : "write 0 0 " + row, "send {1..3} 0").on(rows);
    }

    private static String cut(int tokens) {
        return FORTY.substring(0, tokens);
    }

    private static void putPlaces() {
        on("11: the empty view", "", "put 0 0 {-1,1,MIN,MAX} 0 ! index", "put 0 0 0 0 = 1", "viewed 0 0 = a");
        on("11: the first place", "abc", "put 0 0 0 25 = 1", "viewed 0 0 = zabc");
        on("11: the last place", "abc", "put 0 0 3 25 = 1", "viewed 0 0 = abcz");
        on("11: no such place", "abc", "put 0 0 {-1,4,MIN,MAX} 25 ! index", "viewed 0 0 = abc");
        on("11: places of the view, not of the row", "abc", "put 0 0 3 3", "put 0 0 4 4", "put 0 0 6 5 ! index", "put 1 0 4 5 ! index",
            "put 0 0 5 5 = 3", "viewed 0 0 = abcdef", "row 0 = abc", "viewed 1 0 = abc");
        on("11: fewer places", "abc", "out 0 0 2", "out 0 0 0", "put 0 0 2 5 ! index", "put 0 0 1 5 = 3", "viewed 0 0 = bf");
        on("11: of what is not seen", "abc", "write 1 0 de", "put 0 0 4 5 ! index", "see 0 0", "put 0 0 4 5 = 1");
        on("11: no such TEXT", "abc", "put 0 {-1,1,2,4,6,MIN,MAX} 0 0 ! index");
        on("11: no such person", "abc", "put {-1,4,MIN,MAX} 0 0 0 ! index");
    }

    private static void putTokens() {
        on("11: the first and the last letter", "", "put 0 0 0 0", "put 0 0 0 25", "viewed 0 0 = za");
        on("11: the first and the last BREAK", "", "put 0 0 0 100", "put 0 0 0 103", "viewed 0 0 = RH", "put 0 0 0 101", "put 0 0 0 102",
            "viewed 0 0 = BSRH");
        on("11: no such token", "", "put 0 0 0 {-1,26,99,104,199,MIN,MAX} ! argument");
    }

    private static void putFields() {
        on("11: no shows", "", "put 0 0 0 {199,200,201,209,210} ! argument");
        on("11: one show", "", "show 0 1 0 0", "put 0 0 0 {199,201,209,210} ! argument", "put 0 0 0 200", "viewed 0 0 = 0");
        on("11: ten shows", "").each(0, 9, "show 0 1 0 0 = %d").on("put 0 0 0 {199,210,211} ! argument", "put 0 0 0 {200,209}",
            "viewed 0 0 = 90");
        on("11: of a part to which one has no right", "", "show 0 1 0 0", "put 1 0 0 200 = 1");
    }

    private static void sixOwnEdits() {
        on("11: six own edits", "").each(1, 6, "put 0 0 0 %d = %d").on("put 0 0 {0,6} 0 ! state", "viewed 0 0 = gfedcb");
        on("11: six for each TEXT", "", "give 1 3 0 3").each(1, 6, "put 0 0 0 %d = %d").each(1, 6, "put 0 3 0 %d = %d")
            .on("put 0 {0,3} 0 0 ! state");
        on("11: six for each person", "").each(1, 6, "put 0 0 0 %d = %d", "put 1 0 0 %d = %d").on("put {0,1} 0 0 0 ! state",
            "put 2 0 0 0 = 1");
        on("11: taking out counts", "abc", "out 0 0 0 = 1").each(2, 6, "put 0 0 0 %d = %d").on("put 0 0 0 0 ! state", "out 0 0 0 ! state");
        on("11: void ones count", "abc", "out 0 0 0", "out 1 0 0", "send 1 0", "see 0 0 = 0").each(2, 6, "put 0 0 0 %d = %d")
            .on("put 0 0 0 0 ! state", "send 0 0 = 10", "put 0 0 0 0 = 1");
        on("11: none when they are sent", "").each(1, 6, "put 0 0 0 %d = %d").on("send 0 0 = 6", "put 0 0 0 0 = 1");
    }

    private static void fortyInAView() {
        on("11: 39 tokens", cut(39), "put 0 0 39 13 = 1", "view 0 0 = 40", "put 0 0 {0,40} 0 ! state", "out 0 0 0 = 2", "put 0 0 39 0 = 3");
        on("11: 40 tokens", cut(40), "put {0..3} 0 {0,40} 0 ! state", "put 0 0 41 0 ! index", "out 0 0 39 = 1", "put 1 0 0 0 ! state",
            "put 0 0 39 0 = 2", "put 0 0 0 0 ! state");
        on("11: 41 tokens and more", cut(36), "put 1 0 0 {0..3}", "view 1 0 = 40", "put 0 0 36 {4..7}", "send 0 0", "put 1 0 0 9 ! state",
            "see 1 0 = 3", "view 1 0 = 41", "put 1 0 {0,40,41} 9 ! state", "put 1 0 42 9 ! index", "see 1 0 = 2", "see 1 0 = 1",
            "see 1 0 = 0", "view 1 0 = 44", "put 1 0 {0,44} 9 ! state", "out 1 0 43 = 5", "out 1 0 42 = 6", "view 1 0 = 42",
            "put 1 0 0 9 ! state", "viewed 1 0 = dcba" + cut(36) + "hg");
    }

    private static void fortySixInAView() {
        on("16: 46 tokens", cut(34), "put 1 0 0 {0..5}", "put 0 0 34 {6..9}", "put 0 0 34 {24,25}", "send 0 0", "see 1 0", "see 1 0", "see 1 0", "see 1 0", "see 1 0 = 1",
            "view 1 0 = 45", "see 1 0 = 0", "view 1 0 = 46", "viewed 1 0 = fedcba" + cut(34) + "zyjihg", "viewAt 1 0 45 = 6", "viewAt 1 0 46 ! index", "put 1 0 46 0 ! state",
            "put 1 0 47 0 ! index", "out 1 0 45 ! state", "out 1 0 46 ! index");
    }

    private static void whoMayPut() {
        on("11: less than EDIT", "abc").each(0, 2, "give 0 0 2 %d", "put 2 0 {0,3} 0 ! right").on("give 0 0 2 3", "put 2 0 0 0 = 1");
        on("11: EDIT to another TEXT", "abc", "put 0 3 0 0 ! right", "put 1 3 0 0 = 1");
    }

    private static void firstOfTheReasonsNotToPut() {
        on("11: with six own edits and without EDIT", "abc").each(1, 6, "put 2 0 0 %d").on("give 0 0 2 2",
            "put {-1,4} 0 {0,10} {0,26} ! index", "put 2 {-1,1,2,6} {0,10} {0,26} ! index", "put 2 0 {-1,10} {0,26,200} ! index",
            "put 2 0 {0,9} {-1,26,104,200} ! argument", "put 2 0 {0,9} {0,103} ! right", "give 0 0 2 3",
            "put 2 0 {-1,10} {0,26} ! index", "put 2 0 0 26 ! argument", "put 2 0 0 25 ! state");
        on("11: with 40 tokens and without EDIT", cut(40), "give 0 0 2 0", "put 2 0 41 26 ! index", "put 2 0 40 26 ! argument",
            "put 2 0 40 0 ! right", "put 1 0 41 0 ! index", "put 1 0 40 26 ! argument", "put 1 0 40 0 ! state");
    }

    private static void outPlaces() {
        on("12: the empty view", "", "out 0 0 {-1,0,1,MIN,MAX} ! index");
        on("12: the first and the last token", "abc", "out 0 0 0 = 1", "viewed 0 0 = bc", "out 0 0 1 = 2", "viewed 0 0 = b", "out 0 0 1 ! index",
            "out 0 0 0 = 3", "viewed 0 0 = ", "out 0 0 0 ! index", "row 0 = abc");
        on("12: no such token", "abc", "out 0 0 {-1,3,4,MIN,MAX} ! index");
        on("12: of the view, not of the row", "abc", "put 0 0 3 3", "out 0 0 4 ! index", "out 1 0 3 ! index", "out 0 0 3 = 2", "viewed 0 0 = abc");
        on("12: no such TEXT", "abc", "out 0 {-1,1,2,4,6,MIN,MAX} 0 ! index");
        on("12: no such person", "abc", "out {-1,4,MIN,MAX} 0 0 ! index");
        on("12: of 40 tokens", cut(40), "out 0 0 40 ! index", "out 0 0 39 = 1", "out 0 0 39 ! index", "out 0 0 38 = 2");
    }

    private static void sixOuts() {
        on("12: six own edits", "abcdefgh").each(1, 6, "out 0 0 0 = %d").on("out 0 0 {0,1} ! state", "out 0 0 2 ! index", "viewed 0 0 = gh",
            "send 0 0 = 14", "out 0 0 0 = 1");
        on("12: putting in counts", "a").each(1, 6, "put 0 0 0 %d = %d").on("out 0 0 {0,6} ! state", "out 0 0 7 ! index");
    }

    private static void whoMayTakeOut() {
        on("12: less than EDIT", "abc").each(0, 2, "give 0 0 2 %d", "out 2 0 {0,2} ! right").on("give 0 0 2 3", "out 2 0 0 = 1");
        on("12: with several reasons", "abc").each(1, 6, "put 2 0 0 %d").on("give 0 0 2 2", "out {-1,4} 0 {0,9} ! index",
            "out 2 {-1,1,2,6} {0,9} ! index", "out 2 0 {-1,9} ! index", "out 2 0 {0,8} ! right", "give 0 0 2 3", "out 2 0 9 ! index",
            "out 2 0 8 ! state");
    }

    private static void seeing() {
        new Script("13: an empty log", "make 0 1", "see 0 0 = 0", "view 0 0 = 0");
        new Script("13: one by one, from the first one on", "make 0 1", "write 0 0 abc", "give 0 0 1 1", "view 1 0 = 0", "see 1 0 = 2",
            "viewed 1 0 = a", "see 1 0 = 1", "viewed 1 0 = ab", "see 1 0 = 0", "viewed 1 0 = abc", "see 1 0 = 0", "viewed 1 0 = abc", "see 0 0 = 0");
        on("13: nothing more", "abc", "see {0..3} 0 = 0", "viewed {0..3} 0 = abc");
        on("13: of one's own part of the log too", "a", "put 1 0 1 1", "send 1 0 = 2", "see 1 0 = 0", "see 0 0 = 0", "see 2 0 = 0", "viewed 2 0 = ab");
        on("13: no such TEXT", "abc", "see 0 {-1,1,2,4,6,MIN,MAX} ! index");
        on("13: no such person", "abc", "see {-1,4,MIN,MAX} {0,1} ! index");
        new Script("13: a log of 300", "make 0 1", "give 0 0 {1..3} 3", "write 0 0 abc", "fill 0 1 0 300", "see 3 0 = 299", "viewed 3 0 = a",
            "see 3 0 = 298", "see 3 0 = 297", "viewed 3 0 = abc", "see 0 0 = 0", "see 1 0 = 0");
    }

    private static void whoMaySee() {
        new Script("13: with NOTHING", "make 0 1", "write 0 0 abc", "see {1..3} 0 ! right", "give 0 0 1 1", "see 1 0 = 2", "give 0 0 1 0",
            "see 1 0 ! right", "give 0 0 1 2", "see 1 0 = 1", "give 0 0 1 3", "see 1 0 = 0");
        on("13: with several reasons", "abc", "see 0 3 ! right", "see {-1,4} 3 ! index", "see 0 {1,2,6} ! index");
    }

    /** The first letter of an edit tells what it does: + puts x in at the place, - takes out. */
    private static String edit(int person, String edit, int token) {
        return edit.charAt(0) == '+' ? "put " + person + " 0 " + edit.charAt(1) + " " + token : "out " + person + " 0 " + edit.charAt(1);
    }

    /** The edit of the person 1 is turned by one of the person 0, then by one of the person 2. */
    private static void turn(String edit, String by, String lower, String higher) {
        for (int person = 0; person <= 2; person += 2) {
            String want = person == 0 ? lower : higher;
            on("13: " + edit + " turned by " + by + " of " + person, "abcd", edit(1, edit, 23), edit(person, by, 24), "send " + person + " 0",
                "see 1 0 = 0", "viewed 1 0 = " + want, "send 1 0 = 6", "row 0 = " + want, "rowByLog 0 = " + want, "see " + person + " 0 = 0",
                "viewed " + person + " 0 = " + want);
            on("14: " + edit + " turned by " + by + " of " + person, "abcd", edit(1, edit, 23), edit(person, by, 24), "send " + person + " 0 = 5",
                "send 1 0 = 6", "row 0 = " + want, "rowByLog 0 = " + want);
        }
    }

    private static void turning() {
        turn("+2", "+1", "aybxcd", "aybxcd");
        turn("+2", "+2", "abyxcd", "abxycd");
        turn("+2", "+3", "abxcyd", "abxcyd");
        turn("+2", "-1", "axcd", "axcd");
        turn("+2", "-2", "abxd", "abxd");
        turn("+2", "-3", "abxc", "abxc");
        turn("-2", "+1", "aybd", "aybd");
        turn("-2", "+2", "abyd", "abyd");
        turn("-2", "+3", "abyd", "abyd");
        turn("-2", "-1", "ad", "ad");
        turn("-2", "-2", "abd", "abd");
        turn("-2", "-3", "ab", "ab");
        turn("+0", "+0", "yxabcd", "xyabcd");
        turn("+0", "-0", "xbcd", "xbcd");
        turn("-0", "+0", "ybcd", "ybcd");
        turn("-0", "-0", "bcd", "bcd");
        turn("+4", "+4", "abcdyx", "abcdxy");
        turn("+4", "-3", "abcx", "abcx");
        turn("-3", "+4", "abcy", "abcy");
        turn("+0", "+4", "xabcdy", "xabcdy");
        turn("+4", "+0", "yabcdx", "yabcdx");
        turn("-0", "-3", "bc", "bc");
        turn("-3", "-0", "bc", "bc");
    }

    private static void turningVoidOnes() {
        on("13: by a void one it stays", "abcd", "put 1 0 2 23", "out 0 0 1", "out 2 0 1", "send 2 0 = 5", "send 0 0 = 6", "see 1 0 = 1",
            "viewed 1 0 = axcd", "see 1 0 = 0", "viewed 1 0 = axcd", "send 1 0 = 7", "row 0 = axcd");
        on("13: a void one stays void", "abcd", "out 1 0 2", "out 0 0 2", "put 0 0 0 24", "out 0 0 1", "send 0 0 = 7", "see 1 0 = 2",
            "viewed 1 0 = abd", "see 1 0 = 1", "see 1 0 = 0", "viewed 1 0 = ybd", "send 1 0 = 8", "row 0 = ybd", "rowByLog 0 = ybd");
        on("13: the edit that is seen becomes void by an own one", "abcd", "out 1 0 2", "put 1 0 2 23", "out 1 0 3", "out 0 0 2", "send 0 0 = 5",
            "see 1 0 = 0", "viewed 1 0 = abx", "send 1 0 = 8", "row 0 = abx", "rowByLog 0 = abx");
    }

    private static void turningSixInARow() {
        on("13: the second one by it as turned by the first one", "abc", "put 1 0 0 23", "put 1 0 1 24", "out 1 0 2", "put 0 0 0 25", "send 0 0",
            "see 1 0 = 0", "viewed 1 0 = zxybc");
        on("13: own edits at one place", "abc").each(0, 5, "put 2 0 1 2%d").on("put 0 0 1 4", "put 3 0 1 5", "send 3 0 = 4", "send 0 0 = 5",
            "see 2 0 = 1", "viewed 2 0 = azyxwvufbc", "see 2 0 = 0", "viewed 2 0 = aezyxwvufbc", "send 2 0 = 11", "row 0 = aezyxwvufbc",
            "rowByLog 0 = aezyxwvufbc");
        on("13: as that was", "abc", "out 1 0 0", "out 1 0 0", "out 1 0 0", "out 0 0 1", "send 0 0 = 4", "see 1 0 = 0", "viewed 1 0 = ", "send 1 0 = 7",
            "row 0 = ", "rowByLog 0 = ");
    }

    private static void sending() {
        on("14: nothing", "", "send 0 0 = 0", "send 1 0 = 0", "log 0 = 0");
        on("14: one", "", "put 0 0 0 0", "log 0 = 0", "send 0 0 = 1", "log 0 = 1", "send 0 0 = 1", "row 0 = a");
        on("14: six, in order", "").each(0, 5, "put 0 0 0 %d").on("send 0 0 = 6", "row 0 = fedcba", "see 1 0 = 5", "viewed 1 0 = a", "see 1 0 = 4",
            "viewed 1 0 = ba", "see 0 0 = 0");
        on("14: void ones too", "ab", "out 0 0 0", "out 0 0 0", "out 1 0 0", "out 1 0 0", "send 0 0 = 4", "send 1 0 = 6", "row 0 = ", "rowByLog 0 = ",
            "see 2 0 = 3", "see 2 0 = 2", "see 2 0 = 1", "viewed 2 0 = ", "see 2 0 = 0", "viewed 2 0 = ");
        on("14: all are seen", "ab", "write 1 0 cd", "view 0 0 = 2", "send 0 0 = 4", "viewed 0 0 = abcd", "see 0 0 = 0");
        on("14: no such TEXT", "abc", "send 0 {-1,1,2,4,6,MIN,MAX} ! index");
        on("14: no such person", "abc", "send {-1,4,MIN,MAX} {0,1} ! index");
    }

    private static void sendingToAFullRow() {
        on("14: the 40th token", cut(38), "put 0 0 38 12", "put 1 0 38 13", "send 0 0 = 39", "send 1 0 = 40", "row 0 = " + cut(40), "viewed 1 0 = " + cut(40));
        on("14: the 41st becomes void", cut(39), "put 0 0 39 13", "put 1 0 0 25", "send 0 0 = 40", "send 1 0 = 41", "row 0 = " + cut(40),
            "rowByLog 0 = " + cut(40), "viewed 1 0 = " + cut(40), "see 2 0 = 1", "viewed 2 0 = " + cut(40), "see 2 0 = 0", "viewed 2 0 = " + cut(40));
        on("14: six of them", cut(34)).each(0, 5, "put 0 0 34 %d", "put 1 0 0 1%d").on("send 0 0 = 40", "send 1 0 = 46",
            "row 0 = " + cut(34) + "fedcba", "rowByLog 0 = " + cut(34) + "fedcba");
        on("14: a taking out is not void", cut(40), "out 0 0 0", "put 0 0 39 25", "out 1 0 39", "put 1 0 0 24", "send 0 0 = 42", "send 1 0 = 44",
            "row 0 = y" + cut(39).substring(1) + "z", "rowByLog 0 = y" + cut(39).substring(1) + "z");
        on("14: what is behind a void one at a greater place", cut(39), "put 0 0 39 25", "put 1 0 1 24", "out 1 0 2", "send 0 0 = 40", "send 1 0 = 42",
            "row 0 = a" + cut(39).substring(2) + "z");
        on("14: what is behind it at its place", cut(39), "put 0 0 39 25", "put 1 0 1 24", "out 1 0 1", "send 0 0 = 40", "send 1 0 = 42",
            "row 0 = " + cut(39) + "z", "rowByLog 0 = " + cut(39) + "z");
        on("14: what is behind it at a lower place", cut(39), "put 0 0 39 25", "put 1 0 1 24", "out 1 0 0", "send 0 0 = 40", "send 1 0 = 42",
            "row 0 = " + cut(39).substring(1) + "z");
        on("14: what is put in and taken out behind it", cut(39), "put 0 0 39 25", "put 1 0 1 24", "out 1 0 2", "out 1 0 2", "put 1 0 2 23", "put 1 0 1 22",
            "send 0 0 = 40", "send 1 0 = 45", "row 0 = awx" + cut(39).substring(3) + "z", "rowByLog 0 = awx" + cut(39).substring(3) + "z");
        on("14: put in behind a void one, when there is room again", cut(39), "put 0 0 39 25", "put 1 0 1 24", "out 1 0 2", "put 1 0 2 23",
            "send 0 0 = 40", "send 1 0 = 43", "row 0 = ax" + cut(39).substring(2) + "z", "rowByLog 0 = ax" + cut(39).substring(2) + "z");
    }

    /** A log of so many edits, behind which the row is "ab"; all but the person 2 have seen it. */
    private static Script filled(String about, int edits) {
        return on(about, "ab", "fill 0 1 0 " + edits, "send 3 0 = " + edits, "row 0 = ab");
    }

    private static void longLogsBySending() {
        filled("14: 299 and one", 299).on("put 0 0 0 4", "send 0 0 = 300", "row 0 = eab", "log 0 = 300");
        filled("14: 300 and none", 300).on("send {0..3} 0 = 300", "viewed {0..3} 0 = ab");
        filled("14: 300 and one", 300).on("put 0 0 0 4", "send 0 0 ! state", "out 1 0 1", "send 1 0 ! state", "viewed 1 0 = a", "row 0 = ab", "log 0 = 300");
        filled("14: 299 and two", 299).on("put 0 0 0 4", "put 0 0 0 5", "send 0 0 ! state", "log 0 = 299", "viewed 0 0 = feab");
        filled("14: 294 and six", 294).each(0, 5, "put 0 0 0 %d", "put 1 0 0 %d").on("send 0 0 = 300", "send 1 0 ! state", "see 1 0 = 5");
        filled("14: 295 and six", 295).each(0, 5, "put 0 0 0 %d", "put 1 0 0 %d").on("send {0,1} 0 ! state", "log 0 = 295");
        filled("14: 299 and a void one", 298).on("out 0 0 0", "out 1 0 0", "send 0 0 = 299", "send 1 0 = 300", "row 0 = b");
        filled("14: 300 and a void one", 299).on("out 0 0 0", "out 1 0 0", "send 0 0 = 300", "see 1 0 = 0", "send 1 0 ! state", "row 0 = b");
        String[] full = new String[6];
        java.util.Arrays.fill(full, "put 0 0 0 4");
        for (int own = 4; own <= 5; own++) {
            Script s = filled("14: void ones, by a full row, count too", 258);
            for (int i = 0; i < 6; i++) {
                s.on(full).on("send 0 0");
            }
            s.on("send 1 0 = 294", "put 0 0 0 {4,5}", "put 1 0 0 {5,6}", "out 1 0 0", "put 1 0 0 7");
            if (own == 4) {
                s.on("send 0 0 = 296", "send 1 0 = 300", "length 0 = 40");
            } else {
                s.on("out 1 0 0 = 5", "send 0 0 = 296", "length 0 = 40", "send 1 0 ! state", "length 0 = 40");
            }
        }
    }

    private static void whoMaySend() {
        on("14: less than EDIT", "abc", "put 2 0 0 4").each(0, 2, "give 0 0 2 %d", "send 2 0 ! right").on("give 0 0 2 3", "send 2 0 = 4");
        on("14: without own edits", "abc", "give 0 0 2 2", "send 2 0 ! right", "send 0 3 ! right");
        filled("14: with several reasons", 300).on("put 2 0 0 4", "give 0 0 2 2", "send {-1,4} {0,1,3} ! index", "send 2 {-1,1,2,6} ! index",
            "send 2 0 ! right", "give 0 0 2 3", "send 2 0 ! state");
    }

    private static void nothingToUndo() {
        on("15: an empty log", "", "undo 0 0 ! state");
        on("15: of others alone", "ab", "undo {1..3} 0 ! state", "undo 0 0 = true");
        on("15: a void one alone", "ab", "out 0 0 0", "out 1 0 0", "send 0 0", "undo 1 0 ! state", "send 1 0 = 4", "undo 1 0 ! state");
        on("15: undone ones and undoes alone", "", "put 1 0 0 3", "undo 1 0 = true", "undo 1 0 ! state", "log 0 = 2", "put 1 0 0 3", "undo 1 0 = true",
            "undo 1 0 ! state", "log 0 = 4");
        on("15: in another TEXT", "ab", "undo 1 3 ! state", "give 1 3 0 3", "undo 0 3 ! state", "put 1 3 0 4", "undo 0 3 ! state", "undo 1 3 = true",
            "length 3 = 0", "row 0 = ab");
        on("15: an own one that becomes void", "ab", "out 1 0 0", "out 0 0 0", "send 0 0", "undo 1 0 ! state", "view 1 0 = 1", "see 1 0 = 0");
    }

    private static void undoing() {
        on("15: a putting in", "ab", "undo 0 0 = true", "row 0 = a", "rowByLog 0 = a", "undo 0 0 = true", "row 0 = ", "undo 0 0 ! state", "log 0 = 4");
        on("15: a taking out", "ab", "out 0 0 0", "send 0 0", "undo 0 0 = true", "row 0 = ab", "undo 0 0 = true", "row 0 = a", "undo 0 0 = false", "row 0 = a",
            "undo 0 0 ! state", "log 0 = 6");
        on("15: one's own are sent first", "ab", "put 1 0 0 3", "put 1 0 0 4", "put 0 0 2 5", "send 0 0", "undo 1 0 = true", "row 0 = dabf", "log 0 = 6",
            "viewed 1 0 = dabf", "see 1 0 = 0");
        on("15: each token there is", "", "show 0 1 0 0", "write 0 0 aRS0", "put 1 0 0 0", "undo 1 0 = true", "send 1 0", "out 1 0 3", "out 1 0 2", "out 1 0 1",
            "out 1 0 0", "send 1 0", "row 0 = ", "undo 1 0 = true", "row 0 = a", "undo 1 0 = true", "row 0 = aR", "undo 1 0 = true", "row 0 = aRS",
            "undo 1 0 = true", "row 0 = aRS0", "rowByLog 0 = aRS0");
        on("15: all but void ones and undoes", "abc", "out 1 0 0", "put 1 0 0 23", "out 0 0 0", "send 0 0 = 4", "send 1 0 = 6", "undo 1 0 = true", "row 0 = bc",
            "undo 1 0 ! state", "undo 0 0 = true", "row 0 = abc", "undo 0 0 = true", "row 0 = ab", "log 0 = 9");
        on("15: who sees it", "ab", "undo 0 0 = true", "see 1 0 = 0", "viewed 1 0 = a", "see 0 0 = 0", "viewed 0 0 = a");
    }

    private static void undoingWhatWasMoved() {
        on("15: by what was put in ahead, at it and behind", "ab", "put 1 0 1 23", "send 1 0", "send 0 0", "put 0 0 3 5", "put 0 0 1 4", "put 0 0 0 3", "send 0 0",
            "row 0 = daexbf", "undo 1 0 = true", "row 0 = daebf");
        on("15: by what was taken out ahead and behind", "abc", "put 1 0 1 23", "send 1 0", "send 0 0", "out 0 0 3", "out 0 0 0", "send 0 0", "undo 1 0 = true",
            "row 0 = b");
        on("15: what was taken out since", "abc", "put 1 0 1 23", "send 1 0", "send 0 0", "out 0 0 1", "send 0 0", "undo 1 0 = false", "row 0 = abc", "log 0 = 6",
            "undo 1 0 ! state");
        on("15: a lower one's put in at its place is ahead", "abc", "out 1 0 1", "send 1 0", "send 0 0", "put 0 0 1 24", "send 0 0", "undo 1 0 = true", "row 0 = aybc");
        on("15: a higher one's is behind", "abc", "out 1 0 1", "send 1 0", "send 2 0", "put 2 0 1 24", "send 2 0", "undo 1 0 = true", "row 0 = abyc");
        on("15: the same person's is ahead", "abc", "out 1 0 1", "send 1 0", "put 1 0 1 24", "put 1 0 3 3", "send 1 0", "undo 1 0 = true", "undo 1 0 = true",
            "undo 1 0 = true", "row 0 = abc", "send 2 0", "out 2 0 1", "put 2 0 1 24", "undo 2 0 = true", "undo 2 0 = true", "row 0 = abc");
        on("15: at the beginning and at the end", "abc", "out 1 0 2", "out 1 0 0", "send 1 0", "undo 1 0 = true", "row 0 = ab", "undo 1 0 = true", "row 0 = abc");
    }

    private static void undoingInAFullRow() {
        on("15: 39 tokens", cut(39), "out 1 0 0", "send 1 0", "write 0 0 y", "length 0 = 39", "undo 1 0 = true", "row 0 = " + cut(39) + "y");
        on("15: 40 tokens", cut(40), "out 1 0 0", "send 1 0", "write 0 0 y", "length 0 = 40", "undo 1 0 = false", "row 0 = " + cut(40).substring(1) + "y",
            "log 0 = 43", "undo 1 0 ! state", "rowByLog 0 = " + cut(40).substring(1) + "y");
        on("15: a putting in is undone in it", cut(39), "put 1 0 0 25", "send 1 0", "length 0 = 40", "undo 1 0 = true", "row 0 = " + cut(39));
        on("15: an own one that becomes void by it", cut(39), "put 1 0 0 25", "write 0 0 y", "undo 1 0 ! state", "view 1 0 = 40", "log 0 = 40");
        on("15: the one ahead of it is undone then", cut(38), "put 1 0 0 25", "put 1 0 0 24", "write 0 0 x", "undo 1 0 = true", "row 0 = " + cut(38) + "x",
            "log 0 = 42");
    }

    private static void longLogsByUndoing() {
        filled("15: 299 and the undo", 298).on("put 0 0 0 4", "send 0 0 = 299", "undo 0 0 = true", "log 0 = 300", "row 0 = ab");
        filled("15: 300 and the undo", 299).on("put 0 0 0 4", "send 0 0 = 300", "undo 0 0 ! state", "log 0 = 300", "row 0 = eab");
        filled("15: 298, one to be sent and the undo", 298).on("put 0 0 0 4", "undo 0 0 = true", "log 0 = 300", "row 0 = ab");
        filled("15: 299, one to be sent and the undo", 299).on("put 0 0 0 4", "undo 0 0 ! state", "log 0 = 299", "viewed 0 0 = eab");
        filled("15: 300, one to be sent and the undo", 300).on("put 0 0 0 4", "undo 0 0 ! state", "log 0 = 300", "viewed 0 0 = eab");
        filled("15: 293, six to be sent and the undo", 293).on("put 0 0 0 {0..5}", "undo 0 0 = true", "log 0 = 300", "row 0 = edcbaab");
        filled("15: 294, six to be sent and the undo", 294).on("put 0 0 0 {0..5}", "undo 0 0 ! state", "log 0 = 294");
        filled("15: a void undo in a full log", 298).on("put 0 0 0 4", "send 0 0", "send 1 0", "out 1 0 0", "send 1 0 = 300", "undo 0 0 ! state");
        filled("15: a void undo that just fits", 297).on("put 0 0 0 4", "send 0 0", "send 1 0", "out 1 0 0", "send 1 0 = 299", "undo 0 0 = false", "log 0 = 300");
    }

    private static void whoMayUndo() {
        on("15: less than EDIT", "", "write 2 0 ab").each(0, 2, "give 0 0 2 %d", "undo 2 0 ! right").on("give 0 0 2 3", "undo 2 0 = true", "row 0 = a");
        on("15: no such TEXT", "abc", "undo 0 {-1,1,2,4,6,MIN,MAX} ! index");
        on("15: no such person", "abc", "undo {-1,4,MIN,MAX} 0 ! index");
        on("15: with several reasons", "abc", "give 0 0 2 2", "undo {-1,4} {0,1} ! index", "undo 2 {1,2,6} ! index", "undo 2 0 ! right", "give 0 0 2 3",
            "undo 2 0 ! state");
    }

    private static void views() {
        on("16: an empty one", "", "view {0..3} 0 = 0", "viewAt 0 0 {-1,0} ! index");
        on("16: one of 40", cut(40), "view {0..3} 0 = 40", "viewAt 0 0 39 = 13", "viewAt 0 0 40 ! index");
        on("16: no such TEXT", "abc", "view 0 {-1,1,2,4,6,MIN,MAX} ! index");
        on("16: no such person", "abc", "view {-1,4,MIN,MAX} {0,1} ! index");
        on("17: the first and the last token", "abc", "viewAt 0 0 0 = 0", "viewAt 0 0 2 = 2", "viewAt 0 0 {-1,3,MIN,MAX} ! index");
        on("17: of the view, not of the row", "abc", "put 0 0 3 25", "viewAt 0 0 3 = 25", "viewAt 1 0 3 ! index", "out 1 0 0", "viewAt 1 0 1 = 2",
            "viewAt 1 0 2 ! index");
        on("17: each sort of token", "", "show 0 1 0 0", "write 0 0 zHR0", "viewAt 0 0 0 = 25", "viewAt 0 0 1 = 100", "viewAt 0 0 2 = 103",
            "viewAt 0 0 3 = 200");
        on("17: no such TEXT", "abc", "viewAt 0 {-1,1,2,4,6,MIN,MAX} 0 ! index");
        on("17: no such person", "abc", "viewAt {-1,4,MIN,MAX} 0 0 ! index");
        on("16: with NOTHING", "abc", "give 0 0 2 0", "view 2 0 ! right", "viewAt 2 0 {0,2} ! right", "viewAt 2 0 {-1,3} ! index", "view 0 3 ! right",
            "view {-1,4} 3 ! index").each(1, 3, "give 0 0 2 %d", "view 2 0 = 3", "viewAt 2 0 2 = 2");
    }
}
