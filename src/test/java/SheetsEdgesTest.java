/** The edges of the promises 5 to 10: set, formula, what, value, valueAnew and rounds. */
public final class SheetsEdgesTest {
    /** A SHEET of the person 0, then a TEXT, a DECK, and a SHEET of the person 1. */
    private static final String[] PARTS = {"make 0 0", "make 0 1", "make 0 2", "make 1 0"};

    public static void main(String[] args) {
        setCells();
        setNumbers();
        whoMaySet();
        formulasAtTheEdges();
        kindsOfFormulas();
        whatCountsForNothing();
        whoMayMakeFormulas();
        overTwoCells();
        errorsOfTwoCells();
        sums();
        sumsWithErrors();
        listsByTheirCounts();
        listsByTheirRows();
        listsByWhatIsBelow();
        listsInOneColumn();
        listsOfOddCells();
        hiddenSheets();
        asking();
        sixSheets();
        whoMayAsk();
        roundsOfChains();
        roundsWithoutFormulas();
        roundsOfLists();
        Check.end("SheetsEdgesTest");
    }

    private static Script on(String about, String... rows) {
        return new Script(about, PARTS).on(rows);
    }

    /** What a cell is, however it is asked. */
    private static String[] is(int part, int cell, int kind, int value) {
        String at = (part == 3 ? "1 " : "0 ") + part + " " + cell + " = ";
        return new String[] {"what " + at + kind, "value " + at + value, "valueAnew " + at + value};
    }

    private static void setCells() {
        on("5: the first and the last cell", "set 0 0 {0,11} number 7", "value 0 0 {0,11} = 7", "what 0 0 {1..10} = 0");
        on("5: no such cell", "set 0 0 {-1,12,MIN,MAX} number 7 ! index", "set 0 0 {-1,12,MIN,MAX} blank 7 ! index");
        on("5: no such SHEET", "set 0 {-1,1,2,4,5,6,MIN,MAX} 0 number 7 ! index", "set 0 {0,3} 12 number 7 ! index");
        on("5: no such person", "set {-1,4,MIN,MAX} 0 0 number 7 ! index", "set {-1,4} 0 0 blank 7 ! index");
    }

    private static void setNumbers() {
        for (int number : new int[] {-1000, -999, -1, 0, 1, 999, 1000}) {
            on("5: a number in the range", "set 0 0 4 number " + number).on(is(0, 4, 1, number));
        }
        on("5: a number out of range", "set 0 0 4 number 3", "set 0 0 4 number {-1001,1001,MIN,MAX} ! argument",
            "value 0 0 4 = 3");
        on("5: it counts for nothing if the cell becomes blank", "set 0 0 4 number 3", "set 0 0 4 blank {-1001,1001,MIN,MAX,0,5}",
            "what 0 0 4 = 0", "value 0 0 4 = 0");
        on("5: blank in place of a formula", "formula 0 0 4 0 0 0 0 0", "what 0 0 4 = 1", "set 0 0 4 blank 0", "what 0 0 4 = 0");
    }

    private static void whoMaySet() {
        on("5: less than EDIT").each(0, 2, "give 0 0 2 %d", "set 2 0 0 number 1 ! right", "set 2 0 0 blank 1 ! right")
            .on("give 0 0 2 3", "set 2 0 0 number 1", "value 0 0 0 = 1", "set 2 0 0 blank 1", "what 0 0 0 = 0");
        on("5: EDIT to another SHEET", "set 1 0 0 number 1 ! right", "set 0 3 0 number 1 ! right", "set 1 3 0 number 1");
        on("5: with several reasons", "set {-1,4} {0,1,4} {0,12} number {0,1001} ! index",
            "set {0,2} {-1,1,2,4} {-1,0} number {0,-1001} ! index", "set {0,2} 0 {-1,12} number {0,1001} ! index",
            "set {0,1,2,3} 0 0 number {-1001,1001} ! argument", "set {1,2,3} 0 0 blank {-1001,1001} ! right");
    }

    private static void formulasAtTheEdges() {
        on("6: the first and the last cell", "set 1 3 {0,11} number 4", "give 1 3 0 1", "formula 0 0 {0,11} {0,3} 3 {0,11} 3 {0,11}",
            "formula 0 0 {0,11} {1,2,4} 3 {0,11} 0 {0,11}");
        on("6: no such cell", "formula 0 0 {-1,12,MIN,MAX} {0..4} 0 0 0 0 ! index");
        on("6: no such first cell", "formula 0 0 0 {0..4} 0 {-1,12,MIN,MAX} 0 0 ! index");
        on("6: no such second cell", "formula 0 0 0 {0..3} 0 0 0 {-1,12,MIN,MAX} ! index");
        on("6: no such SHEET", "formula 0 {-1,1,2,4,6,MIN,MAX} 0 {0,4} 0 0 0 0 ! index");
        on("6: no such first SHEET", "formula 0 0 0 {0..4} {-1,1,2,4,6,MIN,MAX} 0 0 0 ! index");
        on("6: no such second SHEET", "formula 0 0 0 {0..2} 0 0 {-1,1,2,4,6,MIN,MAX} 0 ! index");
        on("6: no such person", "formula {-1,4,MIN,MAX} 0 0 {0..4} 0 0 0 0 ! index");
    }

    private static void kindsOfFormulas() {
        on("6: the first and the last kind", "set 0 0 1 number 3", "set 0 0 2 number 2", "formula 0 0 0 0 0 1 0 2", "value 0 0 0 = 5",
            "formula 0 0 0 4 0 1 0 2", "value 0 0 0 = 1", "value 0 0 6 = 3");
        on("6: no such kind", "formula 0 0 0 {-1,5,MIN,MAX} 0 0 0 0 ! argument", "formula 0 0 0 {-1,5} 3 11 3 11 ! argument");
        on("6: without a kind SHEETs and cells are looked at as for PLUS", "formula 0 0 0 {-1,5,MIN,MAX} {-1,1,4} 0 0 0 ! index",
            "formula 0 0 0 {-1,5,MIN,MAX} 0 {-1,12} 0 0 ! index", "formula 0 0 0 {-1,5,MIN,MAX} 0 0 {-1,1,4} 0 ! index",
            "formula 0 0 0 {-1,5,MIN,MAX} 0 0 0 {-1,12} ! index");
    }

    private static void whatCountsForNothing() {
        on("6: the other SHEET of SUM", "set 0 0 {4,5} number 6", "formula 0 0 0 3 0 4 {-1,1,2,4,6,MIN,MAX,0} 5", "value 0 0 0 = 12");
        on("6: but its last cell counts", "formula 0 0 0 3 0 4 {-1,0} {-1,12} ! index");
        on("6: the other SHEET and the second cell of LIST", "set 0 0 5 number 2",
            "formula 0 0 0 4 0 5 {-1,1,4,MIN,MAX} {-1,12,MIN,MAX}", "value 0 0 3 = 2");
    }

    private static void whoMayMakeFormulas() {
        on("6: less than EDIT").each(0, 2, "give 0 0 2 %d", "formula 2 0 0 {0..4} 0 0 0 0 ! right")
            .on("give 0 0 2 3", "formula 2 0 0 {0..4} 0 1 0 1");
        on("6: of a SHEET to which one has no right", "formula 0 0 0 0 3 0 3 1", "what 0 0 0 = 2");
        on("6: with several reasons", "formula {-1,4} {0,1} {0,12} {0,5} 0 0 0 0 ! index", "formula {0,2} 0 {-1,0} {-1,5} 0 12 0 0 ! index",
            "formula {0,1,2,3} 0 0 {-1,5} 0 0 0 0 ! argument", "formula 2 0 0 {0..4} 0 {-1,12} 0 0 ! index",
            "formula 2 0 0 {0..2} 0 0 {-1,1} 0 ! index", "formula 2 0 0 3 0 0 -1 0 ! right", "formula 2 0 0 4 0 0 -1 -1 ! right");
    }

    /** The cells 0 to 3 have 1000000, -1000000, 1 and -1, and 4 the formula. */
    private static void two(String what, int kind, int first, int second, int found, int value) {
        on("6: " + what, "set 0 0 8 number 1000", "set 0 0 9 number -1000", "formula 0 0 0 2 0 8 0 8", "formula 0 0 1 2 0 8 0 9",
            "set 0 0 2 number 1", "set 0 0 3 number -1", "set 0 0 5 number 2", "set 0 0 6 number 0",
            "formula 0 0 4 " + kind + " 0 " + first + " 0 " + second).on(is(0, 4, found, value));
    }

    private static void overTwoCells() {
        two("1000000 by PLUS", 0, 0, 6, 1, 1000000);
        two("one more", 0, 0, 2, 2, 1);
        two("one less", 0, 0, 3, 1, 999999);
        two("-1000000 by PLUS", 0, 6, 1, 1, -1000000);
        two("one less", 0, 1, 3, 2, 1);
        two("one more", 0, 1, 2, 1, -999999);
        two("twice 1000000", 0, 0, 0, 2, 1);
        two("1000000 by MINUS", 1, 0, 6, 1, 1000000);
        two("above by MINUS", 1, 0, 3, 2, 1);
        two("below by MINUS", 1, 1, 2, 2, 1);
        two("-1000000 by MINUS", 1, 6, 0, 1, -1000000);
        two("0 by MINUS", 1, 1, 1, 1, 0);
        two("1000000 by TIMES", 2, 0, 2, 1, 1000000);
        two("-1000000 by TIMES", 2, 0, 3, 1, -1000000);
        two("1000000 by TIMES of two below 0", 2, 3, 1, 1, 1000000);
        two("above by TIMES", 2, 0, 5, 2, 1);
        two("below by TIMES", 2, 5, 1, 2, 1);
        two("1000000 times itself", 2, 0, 0, 2, 1);
        two("1000000 times -1000000", 2, 0, 1, 2, 1);
        two("0 times 1000000", 2, 6, 0, 1, 0);
        two("a blank one counts 0 by PLUS", 0, 7, 0, 1, 1000000);
        two("a blank one counts 0 by MINUS", 1, 7, 0, 1, -1000000);
        two("a blank one counts 0 by TIMES", 2, 1, 7, 1, 0);
        two("two blank ones by PLUS", 0, 7, 10, 1, 0);
        two("two blank ones by MINUS", 1, 7, 10, 1, 0);
        two("two blank ones by TIMES", 2, 7, 7, 1, 0);
    }

    /** The cell 0 is OVER, 2 BLOCKED, 9 HIDDEN, 1 a number, 3 blank; 4 is the formula. */
    private static void errorsOfTwoCells() {
        for (int kind = 0; kind < 3; kind++) {
            on("6: an error stays, the first cell's ahead", "formula 0 0 0 4 0 3 0 0", "set 0 0 1 number 2", "set 0 0 5 number 7",
                "formula 0 0 2 4 0 1 0 0", "formula 0 0 9 0 3 0 0 1")
                .on(is(0, 0, 2, 1)).on(is(0, 2, 2, 2)).on(is(0, 9, 2, 3))
                .on("formula 0 0 4 " + kind + " 0 0 0 2").on(is(0, 4, 2, 1))
                .on("formula 0 0 4 " + kind + " 0 2 0 0").on(is(0, 4, 2, 2))
                .on("formula 0 0 4 " + kind + " 0 9 0 0").on(is(0, 4, 2, 3))
                .on("formula 0 0 4 " + kind + " 0 2 0 9").on(is(0, 4, 2, 2))
                .on("formula 0 0 4 " + kind + " 0 1 0 2").on(is(0, 4, 2, 2))
                .on("formula 0 0 4 " + kind + " 0 0 0 1").on(is(0, 4, 2, 1))
                .on("formula 0 0 4 " + kind + " 0 3 0 9").on(is(0, 4, 2, 3))
                .on("formula 0 0 4 " + kind + " 0 3 0 0").on(is(0, 4, 2, 1))
                .on("formula 0 0 4 " + kind + " 0 0 0 3").on(is(0, 4, 2, 1))
                .on("set 0 0 6 number 0", "formula 0 0 4 " + kind + " 0 6 0 0").on(is(0, 4, 2, 1))
                .on("formula 0 0 4 " + kind + " 0 0 0 6").on(is(0, 4, 2, 1))
                .on("formula 0 0 4 " + kind + " 0 6 0 2").on(is(0, 4, 2, 2))
                .on("formula 0 0 4 " + kind + " 0 9 0 3").on(is(0, 4, 2, 3))
                .on("formula 0 0 4 " + kind + " 3 0 0 0").on(is(0, 4, 2, 3))
                .on("formula 0 0 4 " + kind + " 0 0 3 0").on(is(0, 4, 2, 1));
        }
    }

    private static void sums() {
        on("6: of one cell", "set 0 0 11 number 5", "formula 0 0 0 3 0 11 0 11").on(is(0, 0, 1, 5));
        on("6: of a blank one", "formula 0 0 0 3 0 11 0 11").on(is(0, 0, 1, 0));
        on("6: of all cells", "give 1 3 0 1", "set 1 3 {0..11} number 83", "formula 0 0 0 3 3 0 0 11", "value 0 0 0 = 996",
            "formula 0 0 0 3 3 11 0 0", "value 0 0 0 = 996", "formula 0 0 0 3 3 2 0 9", "value 0 0 0 = 996",
            "formula 0 0 0 3 3 9 0 2", "value 0 0 0 = 996");
        on("6: of a row, a column and a corner", "give 1 3 0 1", "set 1 3 0 number 1", "set 1 3 1 number 2", "set 1 3 2 number 4",
            "set 1 3 3 number 8", "set 1 3 4 number 16", "set 1 3 6 number 32", "set 1 3 9 number 64", "set 1 3 11 number 128",
            "formula 0 0 0 3 3 0 0 2", "value 0 0 0 = 7", "formula 0 0 0 3 3 0 0 9", "value 0 0 0 = 105",
            "formula 0 0 0 3 3 0 0 4", "value 0 0 0 = 27", "formula 0 0 0 3 3 3 0 1", "value 0 0 0 = 27",
            "formula 0 0 0 3 3 5 0 11", "value 0 0 0 = 128", "formula 0 0 0 3 3 1 0 10", "value 0 0 0 = 18",
            "formula 0 0 0 3 3 6 0 2", "value 0 0 0 = 63");
        String[] million = {"give 1 3 0 1", "set 1 3 9 number 1000", "set 1 3 10 number -1000", "formula 1 3 0 2 3 9 3 9",
            "formula 1 3 3 2 3 9 3 10", "formula 0 0 0 3 3 0 0 2", "formula 0 0 1 3 3 3 0 5"};
        on("6: a sum of 1000000 and one of -1000000", million).on(is(0, 0, 1, 1000000)).on(is(0, 1, 1, -1000000))
            .on("set 1 3 2 number 1", "set 1 3 5 number -1").on(is(0, 0, 2, 1)).on(is(0, 1, 2, 1))
            .on("set 1 3 2 number -1", "set 1 3 5 number 1").on(is(0, 0, 1, 999999)).on(is(0, 1, 1, -999999))
            .on("set 1 3 1 number 1", "set 1 3 4 number -1").on(is(0, 0, 1, 1000000)).on(is(0, 1, 1, -1000000));
        on("6: twelve times 1000000", "give 0 0 1 1", "set 0 0 9 number 1000", "formula 1 3 {0..11} 2 0 9 0 9", "formula 0 0 0 3 3 0 0 11",
            "give 1 3 0 1").on(is(0, 0, 2, 1));
    }

    private static void sumsWithErrors() {
        on("6: the first error, cell by cell", "give 1 3 0 1", "set 1 3 9 number 2", "formula 1 3 4 4 3 9 3 0", "set 1 3 7 number 0",
            "formula 1 3 2 4 3 8 3 0", "formula 1 3 3 0 0 0 0 0", "formula 0 0 0 3 3 0 0 11").on(is(3, 2, 2, 1)).on(is(3, 3, 2, 3))
            .on(is(3, 4, 2, 2)).on(is(0, 0, 2, 1))
            .on("set 1 3 2 blank 0").on(is(0, 0, 2, 3))
            .on("set 1 3 3 number 0").on(is(0, 0, 2, 2))
            .on("formula 1 3 11 4 3 8 3 0").on(is(0, 0, 2, 2))
            .on("formula 0 0 0 3 3 11 0 1").on(is(0, 0, 2, 2))
            .on("set 1 3 4 number 1").on(is(0, 0, 2, 1));
        on("6: an error, whatever the sum is", "give 1 3 0 1", "set 1 3 9 number 1000", "formula 1 3 {0..1} 2 3 9 3 9", "set 1 3 6 number 1",
            "formula 1 3 2 0 0 0 0 0", "formula 0 0 0 3 3 0 0 2").on(is(0, 0, 2, 3)).on("give 0 0 1 1", "set 0 0 0 number 0",
            "formula 0 0 3 3 3 0 0 1").on(is(0, 3, 2, 1));
    }

    private static void listsByTheirCounts() {
        for (int count : new int[] {-1000, -1, 0, 5, 6, 1000}) {
            on("6: a LIST of " + count, "set 0 0 1 number " + count, "formula 0 0 0 4 0 1 0 0").on(is(0, 0, 2, 1)).on(is(0, 3, 0, 0));
        }
        on("6: a LIST of a blank cell", "formula 0 0 0 4 0 1 0 0").on(is(0, 0, 2, 1));
        on("6: a LIST of 1000000", "set 0 0 2 number 1000", "formula 0 0 1 2 0 2 0 2", "formula 0 0 0 4 0 1 0 0").on(is(0, 0, 2, 1));
        on("6: OVER ahead of BLOCKED", "set 0 0 1 number 5", "formula 0 0 {0,3,6,9} 4 0 1 0 0").on(is(0, 0, 2, 1)).on(is(0, 9, 2, 1));
        on("6: an error stays", "set 0 0 1 number 2", "formula 0 0 9 4 0 1 0 0", "formula 0 0 0 4 0 9 0 0", "formula 0 0 2 0 3 0 3 0",
            "formula 0 0 5 4 0 2 0 0", "formula 0 0 8 4 0 11 0 0", "formula 0 0 10 4 0 8 0 0")
            .on(is(0, 9, 2, 2)).on(is(0, 0, 2, 2)).on(is(0, 2, 2, 3)).on(is(0, 5, 2, 3)).on(is(0, 8, 2, 1)).on(is(0, 10, 2, 1));
        on("6: all counts there are").each(1, 4, "set 0 0 1 number %d", "formula 0 0 0 4 0 1 0 0", "what 0 0 0 = 1", "value 0 0 0 = 1")
            .on("flatText 0 0 0 = 1,4,;2,,;3,,;4,,", "set 0 0 1 number 3", "flatText 0 0 0 = 1,3,;2,,;3,,;,,",
                "set 0 0 1 number 2", "flatText 0 0 0 = 1,2,;2,,;,,;,,", "set 0 0 1 number 1", "flatText 0 0 0 = 1,1,;,,;,,;,,",
                "set 0 0 1 number 0", "flatText 0 0 0 = !,0,;,,;,,;,,");
    }

    /** There must be as many rows as a LIST needs. */
    private static void listsByTheirRows() {
        for (int row = 0; row < 4; row++) {
            for (int column = 0; column < 3; column++) {
                for (int count = 1; count <= 4; count++) {
                    int cell = row * 3 + column;
                    boolean fits = row + count <= 4;
                    Script s = on("6: a LIST of " + count + " in the cell " + cell, "give 1 3 0 1", "set 1 3 0 number " + count,
                        "formula 0 0 " + cell + " 4 3 0 0 0").on(is(0, cell, fits ? 1 : 2, fits ? 1 : 2));
                    for (int other = 0; other < 12; other++) {
                        int down = (other - cell) / 3;
                        boolean spilt = fits && other > cell && (other - cell) % 3 == 0 && down < count;
                        if (other != cell) {
                            s.on(is(0, other, spilt ? 1 : 0, spilt ? down + 1 : 0));
                        }
                    }
                }
            }
        }
    }

    /** What stands below blocks a LIST that needs the cell, and none that does not. */
    private static void listsByWhatIsBelow() {
        String[] inTheWay = {"set 0 0 %d number 0", "formula 0 0 %d 0 0 2 0 2", "formula 0 0 %d 3 0 2 0 2", "formula 0 0 %d 4 0 2 0 0"};
        for (String what : inTheWay) {
            for (int count = 1; count <= 4; count++) {
                for (int down = 1; down <= 3; down++) {
                    boolean isBlocked = down < count;
                    Script s = on("6: a LIST of " + count + " above " + what, "set 0 0 1 number " + count,
                        what.replace("%d", Integer.toString(down * 3)), "formula 0 0 0 4 0 1 0 0")
                        .on(is(0, 0, isBlocked ? 2 : 1, isBlocked ? 2 : 1));
                    for (int i = 1; i < down; i++) {
                        boolean spilt = !isBlocked && i < count;
                        s.on(is(0, i * 3, spilt ? 1 : 0, spilt ? i + 1 : 0));
                    }
                    s.on("set 0 0 " + down * 3 + " blank 0").on(is(0, 0, 1, 1));
                }
            }
        }
    }

    private static void listsInOneColumn() {
        on("6: two LISTs, one below the other", "set 0 0 1 number 2", "formula 0 0 {0,6} 4 0 1 0 0", "flatText 0 0 0 = 1,2,;2,,;1,,;2,,",
            "set 0 0 1 number 1", "flatText 0 0 0 = 1,1,;,,;1,,;,,", "set 0 0 1 number 3", "flatText 0 0 0 = !,3,;,,;!,,;,,");
        on("6: a blank one below a number below a LIST", "set 0 0 1 number 1", "formula 0 0 0 4 0 1 0 0", "set 0 0 3 number 8",
            "flatText 0 0 0 = 1,1,;8,,;,,;,,");
        on("6: a number does not spill, nor another formula", "set 0 0 0 number 4", "formula 0 0 1 0 0 0 0 5", "formula 0 0 2 3 0 0 0 0",
            "flatText 0 0 0 = 4,4,4;,,;,,;,,");
        on("6: two LISTs, one by what the other spills", "set 0 0 0 number 2", "formula 0 0 1 4 0 0 0 0", "formula 0 0 2 4 0 4 0 0",
            "flatText 0 0 0 = 2,1,1;,2,2;,,;,,", "set 0 0 0 number 1", "flatText 0 0 0 = 1,1,!;,,;,,;,,");
    }

    private static void listsOfOddCells() {
        on("6: a LIST of itself", "formula 0 0 0 4 0 0 0 0").on(is(0, 0, 2, 1));
        on("6: a LIST of what it spills into", "formula 0 0 0 4 0 3 0 0").on(is(0, 0, 2, 1)).on(is(0, 3, 0, 0));
        on("6: a LIST of another SHEET", "give 1 3 0 1", "set 1 3 11 number 4", "formula 0 0 2 4 3 11 0 0", "flatText 0 0 0 = ,,1;,,2;,,3;,,4");
    }

    private static void hiddenSheets() {
        on("6: HIDDEN with NOTHING alone", "set 1 3 0 number 2", "formula 0 0 0 {0..3} 3 0 3 0", "formula 0 0 1 4 3 0 0 0").on(is(0, 0, 2, 3))
            .on(is(0, 1, 2, 3)).each(1, 3, "give 1 3 0 %d", "value 0 0 0 = 2", "what 0 0 {0,1} = 1", "value 0 0 4 = 2")
            .on("give 1 3 0 0").on(is(0, 0, 2, 3)).on(is(0, 1, 2, 3)).on(is(0, 4, 0, 0));
        on("6: a blank one is HIDDEN too", "formula 0 0 0 0 0 11 3 0", "formula 0 0 1 4 3 0 0 0").on(is(0, 0, 2, 3)).on(is(0, 1, 2, 3));
        on("6: the right of the owner of its own SHEET counts", "set 1 3 0 number 2", "give 0 0 1 3", "formula 1 0 0 0 3 0 3 0")
            .on(is(0, 0, 2, 3)).on("give 1 3 2 3").on(is(0, 0, 2, 3)).on("give 1 3 0 1").on(is(0, 0, 1, 4)).on("value 1 0 0 = 4");
        on("6: a SHEET is not hidden to itself, nor others of its owner", "make 0 0", "set 0 4 3 number 6", "formula 0 0 0 0 0 5 4 3")
            .on(is(0, 0, 1, 6));
        on("6: HIDDEN by two SHEETs", "give 0 0 1 1", "set 1 3 0 number 2", "formula 0 0 0 0 3 0 3 0", "formula 1 3 1 0 0 0 3 0")
            .on(is(3, 1, 2, 3)).on("give 1 3 0 1").on(is(3, 1, 1, 6));
    }

    private static void asking() {
        for (String call : new String[] {"what", "value", "valueAnew"}) {
            String promise = call.equals("what") ? "7: " : call.equals("value") ? "8: " : "9: ";
            on(promise + "the first and the last cell", call + " 0 0 {0,11} = 0", "set 0 0 {0,11} number 1", call + " 0 0 {0,11} = 1");
            on(promise + "no such cell", call + " 0 0 {-1,12,MIN,MAX} ! index");
            on(promise + "no such SHEET", call + " 0 {-1,1,2,4,6,MIN,MAX} 0 ! index");
            on(promise + "no such person", call + " {-1,4,MIN,MAX} 0 0 ! index");
        }
        on("7: blank, a number, an error", "set 0 0 1 number 0", "formula 0 0 2 4 0 0 0 0", "what 0 0 0 = 0", "what 0 0 1 = 1", "what 0 0 2 = 2");
        on("8: a number, an error, or 0", "set 0 0 1 number -7", "formula 0 0 2 4 0 0 0 0", "value 0 0 0 = 0", "value 0 0 1 = -7",
            "value 0 0 2 = 1");
        on("9: the same, anew", "set 0 0 1 number -7", "formula 0 0 2 4 0 0 0 0", "valueAnew 0 0 0 = 0", "valueAnew 0 0 1 = -7",
            "valueAnew 0 0 2 = 1");
        on("9: from nothing each time", "set 0 0 1 number 1", "formula 0 0 0 0 0 0 0 1", "valueAnew 0 0 0 = 20", "valueAnew 0 0 0 = 20",
            "value 0 0 0 = 20", "rounds = 20", "set 0 0 2 number 5", "value 0 0 0 = 20");
    }

    private static void sixSheets() {
        new Script("8: six SHEETs").each(0, 5, "make 0 0 = %d", "set 0 %d 0 number 3", "formula 0 %d 1 4 %d 0 %d 0", "set 0 %d 11 number 1%d",
            "flatText 0 %d 0 = 3,1,;,2,;,3,;,,1%d", "what 0 %d 7 = 1", "value 0 %d 7 = 3", "valueAnew 0 %d 11 = 1%d", "rounds = 2")
            .on("formula 0 5 2 0 0 11 4 7", "value 0 5 2 = 13", "formula 0 0 2 3 5 0 0 11", "value 0 0 2 = 37", "formula 0 5 5 4 3 4 3 0", "value 0 0 2 = 40",
                "valueAnew 0 0 2 = 40", "what 0 6 0 ! index");
    }

    private static void whoMayAsk() {
        for (String call : new String[] {"7: what", "8: value", "9: valueAnew"}) {
            String name = call.substring(3);
            on(call + " with less than SEE", name + " {1,2,3} 0 {0,11} ! right", name + " 0 3 0 ! right");
            on(call + " with SEE and more", "set 0 0 4 number 1").each(1, 3, "give 0 0 2 %d", name + " 2 0 4 = 1")
                .on("give 0 0 2 0", name + " 2 0 4 ! right");
            on(call + " with several reasons", name + " {-1,2,4} {0,1,4} 12 ! index", name + " 2 {-1,1,2,4} 0 ! index",
                name + " {-1,4} 3 0 ! index");
        }
    }

    /** So many formulas, each of the next cell, the last one of a number: one is found in each round. */
    private static Script chain(int formulas) {
        Script s = new Script("10: a chain of " + formulas, "make 0 0", "make 0 0", "set 0 1 11 number 9");
        for (int i = 23 - formulas; i < 23; i++) {
            s.on("formula 0 " + i / 12 + " " + i % 12 + " 3 " + (i + 1) / 12 + " " + (i + 1) % 12 + " 0 " + (i + 1) % 12);
        }
        return s;
    }

    private static void roundsOfChains() {
        for (int formulas = 1; formulas <= 23; formulas++) {
            int first = 23 - formulas;
            chain(formulas).on("rounds = " + Math.min(formulas + 1, 20),
                "value 0 " + first / 12 + " " + first % 12 + " = " + (formulas <= 20 ? 9 : 0),
                "valueAnew 0 " + first / 12 + " " + first % 12 + " = " + (formulas <= 20 ? 9 : 0), "rounds = " + Math.min(formulas + 1, 20));
        }
        on("10: those ahead in this round", "set 0 0 0 number 3", "formula 0 0 1 0 0 0 0 2", "formula 0 0 3 0 0 1 0 2",
            "formula 0 0 5 0 0 3 0 2", "rounds = 2").on(is(0, 5, 1, 3));
        new Script("10: parts ahead of cells", "make 0 0", "make 0 0", "set 0 0 11 number 3", "formula 0 1 0 0 0 11 1 11",
            "formula 0 0 0 0 1 0 1 11", "rounds = 3", "formula 0 0 0 0 0 10 0 10", "rounds = 2");
        on("10: of itself", "set 0 0 1 number 1", "formula 0 0 0 0 0 0 0 1", "rounds = 20").on(is(0, 0, 1, 20));
        on("10: of itself, by two", "set 0 0 2 number 1", "formula 0 0 0 0 0 1 0 2", "formula 0 0 1 0 0 0 0 2", "rounds = 20")
            .on(is(0, 0, 1, 39)).on(is(0, 1, 1, 40));
        on("10: of itself until it is OVER", "set 0 0 1 number 1000", "formula 0 0 2 2 0 1 0 1", "set 0 0 3 number 300",
            "formula 0 0 4 2 0 1 0 3", "formula 0 0 0 0 0 0 0 4", "rounds = 6").on(is(0, 0, 2, 1));
    }

    private static void roundsWithoutFormulas() {
        new Script("10: without parts", "rounds = 1");
        on("10: without formulas", "rounds = 1", "set 0 0 {0..11} number 4", "rounds = 1");
        on("10: a formula that is 0", "formula 0 0 0 0 0 1 0 1", "rounds = 1");
        on("10: no formula any longer", "set 0 0 1 number 2", "formula 0 0 0 0 0 1 0 1", "rounds = 2", "set 0 0 0 blank 0", "rounds = 1");
    }

    private static void roundsOfLists() {
        on("10: a LIST of 1 is 0 at first", "set 0 0 1 number 1", "formula 0 0 0 4 0 1 0 0", "rounds = 2");
        on("10: its count is 1 at first", "set 0 0 1 number 4", "formula 0 0 0 4 0 1 0 0", "rounds = 2");
        on("10: a count that becomes another one", "set 0 0 0 number 3", "formula 0 0 1 4 0 2 0 0", "formula 0 0 2 0 0 5 0 8",
            "formula 0 0 5 0 0 8 0 11", "formula 0 0 8 0 0 0 0 11", "rounds = 5", "flatText 0 0 0 = 3,!,6;,,3;,,3;,,",
            "set 0 0 0 number 1", "flatText 0 0 0 = 1,1,2;,2,1;,,1;,,", "rounds = 5");
        on("10: what spills is there in the same round", "set 0 0 0 number 2", "formula 0 0 1 4 0 0 0 0", "formula 0 0 5 0 0 4 0 4", "rounds = 2").on(is(0, 5, 1, 4));
        on("10: and in the next one for those ahead of it", "set 0 0 3 number 2", "formula 0 0 1 4 0 3 0 0", "formula 0 0 0 0 0 4 0 4", "rounds = 3").on(is(0, 0, 1, 4));
        on("10: an error that stays, though the asked number moves", "set 0 0 11 number 9", "formula 0 0 0 4 0 1 0 0",
            "formula 0 0 1 0 0 11 0 11", "rounds = 2");
    }
}
