/** The edges of the promises 44 to 46: line, wipe and run. */
public final class MacrosEdgesTest {
    /** A SHEET and a TEXT of the person 0, to which 1 has EDIT, and a DECK. */
    private static final String[] PARTS = {"make 0 0", "make 0 1", "make 0 2", "give 0 {0,1} 1 3"};
    private static final String FORTY = "abcdefghijklmnopqrstuvwxyzabcdefghijklmn";
    private static final int WRITE = 0, ADD = 1, MOVE = 2, TYPE = 3, COUNT = 4, BACK = 5;

    public static void main(String[] args) {
        numbersOfLines();
        eightLines();
        wiped();
        writing();
        adding();
        addingToEachCell();
        addingToFormulas();
        moving();
        typing();
        typingInAFullRow();
        counting();
        goingBack();
        thirtySteps();
        longLogsByRunning();
        whoMayRun();
        Check.end("MacrosEdgesTest");
    }

    private static Script on(String about, String... rows) {
        return new Script(about, PARTS).on(rows);
    }

    /** Lines, each as its kind and its number. */
    private static String[] lines(int... kindsAndNumbers) {
        String[] rows = new String[kindsAndNumbers.length / 2];
        for (int i = 0; i < rows.length; i++) {
            rows[i] = "line " + kindsAndNumbers[2 * i] + " " + kindsAndNumbers[2 * i + 1] + " = " + (i + 1);
        }
        return rows;
    }

    private static void numbersOfLines() {
        on("44: WRITE and ADD", "line {0,1} {-99,99}", "wipe = 4", "line {0,1} {-100,100,MIN,MAX} ! argument");
        on("44: MOVE", "line 2 {0,11}", "line 2 {-1,12,MIN,MAX} ! argument", "wipe = 2");
        on("44: TYPE", "line 3 {0,25}", "line 3 {-1,26,100,MIN,MAX} ! argument", "wipe = 2");
        on("44: COUNT and BACK", "line {4,5} {0,9}", "line {4,5} {-1,10,MIN,MAX} ! argument", "wipe = 4");
        on("44: no such kind", "line {-1,6,MIN,MAX} {0,1,-1,100} ! argument", "wipe = 0");
        new Script("44: without parts", "line 0 5 = 1", "line 5 9 = 2", "wipe = 2");
    }

    private static void eightLines() {
        on("44: eight").each(1, 8, "line 0 %d = %d").on("line {0..5} {0,9} ! state", "line 0 100 ! argument", "line 6 0 ! argument", "wipe = 8", "line 0 0 = 1");
        on("44: all of the eight are done").each(1, 8, "line 1 %d = %d").on("run 0 0 1 = 8", "value 0 0 0 = 36");
    }

    private static void wiped() {
        on("45: none", "wipe = 0", "wipe = 0");
        on("45: one", "line 0 7 = 1", "wipe = 1", "wipe = 0", "run 0 0 1 = 0", "what 0 0 0 = 0");
        on("45: eight").each(1, 8, "line 0 %d = %d").on("wipe = 8", "wipe = 0", "run 0 0 1 = 0").each(1, 8, "line 0 9 = %d").on("line 0 0 ! state");
    }

    private static void writing() {
        on("46: no lines", "run 0 0 1 = 0", "what 0 0 {0..11} = 0", "log 1 = 0");
        on("46: WRITE the least and the greatest").on(lines(WRITE, -99, MOVE, 11, WRITE, 99)).on("run 0 0 1 = 3", "value 0 0 0 = -99", "value 0 0 11 = 99");
        on("46: WRITE in place of a formula", "formula 0 0 0 4 0 1 0 0").on(lines(WRITE, 0)).on("run 0 0 1 = 1", "what 0 0 0 = 1", "value 0 0 0 = 0");
        on("46: the cell is 0 at first, each time").on(lines(WRITE, 1, MOVE, 5, WRITE, 2)).on("run 0 0 1 = 3", "run 0 0 1 = 3", "flatText 0 0 0 = 1,,;,,2;,,;,,");
    }

    private static void adding() {
        on("46: ADD to a blank one").on(lines(ADD, 99)).on("run 0 0 1 = 1", "value 0 0 0 = 99");
        on("46: ADD 0 to a blank one").on(lines(ADD, 0)).on("run 0 0 1 = 1", "what 0 0 0 = 1");
        on("46: ADD up to 1000", "set 0 0 0 number 901").on(lines(ADD, 99, ADD, 0, ADD, 1, WRITE, 5)).on("run 0 0 1 = 2", "value 0 0 0 = 1000");
        on("46: ADD beyond 1000", "set 0 0 0 number 902").on(lines(ADD, 99, WRITE, 5)).on("run 0 0 1 = 0", "value 0 0 0 = 902");
        on("46: ADD down to -1000", "set 0 0 0 number -901").on(lines(ADD, -99, ADD, 0, ADD, -1, WRITE, 5)).on("run 0 0 1 = 2", "value 0 0 0 = -1000");
        on("46: ADD beyond -1000", "set 0 0 0 number -902").on(lines(ADD, -99, WRITE, 5)).on("run 0 0 1 = 0", "value 0 0 0 = -902");
        on("46: ADD from one end", "set 0 0 0 number 1000").on(lines(ADD, -1, ADD, 1, ADD, 1)).on("run 0 0 1 = 2", "value 0 0 0 = 1000");
    }

    private static void addingToEachCell() {
        Script s = on("46: ADD to each cell", "set 0 0 {0..11} number 500").each(0, 11, "set 0 0 %d number 1%d");
        for (int cell = 0; cell < 12; cell++) {
            s.on("wipe").on(lines(MOVE, cell, ADD, 50)).on("run 0 0 1 = 2", "value 0 0 " + cell + " = " + (50 + Integer.parseInt("1" + cell)));
        }
    }

    private static void addingToFormulas() {
        for (int kind = 0; kind <= 4; kind++) {
            on("46: ADD to a formula", "set 0 0 1 number 2", "formula 0 0 0 " + kind + " 0 1 0 1").on(lines(ADD, 0, WRITE, 5)).on("run 0 0 1 = 0")
                .on("what 0 0 0 = 1", "set 0 0 1 number 1", "value 0 0 0 = " + new int[] {2, 0, 1, 1, 1}[kind]);
        }
        on("46: what was done ahead of it stays", "formula 0 0 5 0 0 0 0 0").on(lines(WRITE, 7, TYPE, 0, MOVE, 5, ADD, 1, TYPE, 1)).on("run 0 0 1 = 3", "value 0 0 5 = 14",
            "row 1 = a");
        on("46: ADD to a blank one into which a LIST spills", "set 0 0 1 number 2", "formula 0 0 0 4 0 1 0 0").on(lines(MOVE, 3, ADD, 4)).on("run 0 0 1 = 2",
            "flatText 0 0 0 = !,2,;4,,;,,;,,");
    }

    private static void moving() {
        for (int by = 0; by < 12; by++) {
            for (int from = 0; from < 12; from += 11) {
                on("46: MOVE by " + by + " from " + from).on(lines(MOVE, from, MOVE, by, WRITE, 9)).on("run 0 0 1 = 3", "value 0 0 " + (from + by) % 12 + " = 9");
            }
        }
        on("46: MOVE round and round").on(lines(COUNT, 9, MOVE, 11, ADD, 1, BACK, 2)).on("run 0 0 1 = 30", "flatText 0 0 0 = ,,1;1,1,1;1,1,1;1,1,1");
        on("46: MOVE from 6 by 6, then by 6").on(lines(MOVE, 6, MOVE, 6, WRITE, 1, MOVE, 6, WRITE, 2)).on("run 0 0 1 = 5", "flatText 0 0 0 = 1,,;,,;2,,;,,");
    }

    private static void typing() {
        on("46: TYPE the first and the last letter").on(lines(TYPE, 0, TYPE, 25)).on("run 0 0 1 = 2", "row 1 = az", "log 1 = 2", "rowByLog 1 = az", "viewed 0 1 = az",
            "view 1 1 = 0");
        on("46: TYPE behind the row", "write 0 1 bH").on(lines(TYPE, 2)).on("run 1 0 1 = 1", "row 1 = bHc", "viewed 1 1 = bHc", "see 1 1 = 0", "see 0 1 = 0", "undo 1 1 = true",
            "row 1 = bH", "undo 1 1 ! state");
        on("46: TYPE behind an undo", "put 0 1 0 3", "undo 0 1 = true").on(lines(TYPE, 2)).on("run 0 0 1 = 1", "undo 0 1 = true", "row 1 = ");
        on("46: who TYPEs sends ahead of it", "put 0 1 0 7", "put 1 1 0 8").on(lines(TYPE, 2)).on("run 1 0 1 = 1", "row 1 = ic", "log 1 = 2", "viewed 0 1 = h");
        on("46: without TYPE nothing is sent or seen", "write 0 1 a", "put 1 1 0 8").on(lines(WRITE, 2)).on("run 1 0 1 = 1", "row 1 = a", "viewed 1 1 = i", "see 1 1 = 0");
    }

    private static void typingInAFullRow() {
        on("46: the 40th", "write 0 1 " + FORTY.substring(0, 39)).on(lines(TYPE, 13, WRITE, 5, TYPE, 0, WRITE, 6)).on("run 0 0 1 = 2", "row 1 = " + FORTY, "log 1 = 40",
            "value 0 0 0 = 5");
        on("46: the 41st", "write 0 1 " + FORTY).on(lines(TYPE, 0, WRITE, 5)).on("run 0 0 1 = 0", "row 1 = " + FORTY, "log 1 = 40", "what 0 0 0 = 0");
        on("46: 38 and two", "write 0 1 " + FORTY.substring(0, 38)).on(lines(TYPE, 12, TYPE, 13, TYPE, 14)).on("run 0 0 1 = 2", "row 1 = " + FORTY);
        on("46: room by what is sent", "write 0 1 " + FORTY, "out 0 1 39").on(lines(TYPE, 25)).on("run 0 0 1 = 1", "row 1 = " + FORTY.substring(0, 39) + "z");
        on("46: no room by what is sent", "write 0 1 " + FORTY.substring(0, 39), "put 0 1 0 25").on(lines(TYPE, 25)).on("run 0 0 1 = 0",
            "row 1 = z" + FORTY.substring(0, 39), "view 0 1 = 40");
        on("46: a full log does not matter in a full row", "write 0 1 " + FORTY, "fill 0 1 1 300").on(lines(WRITE, 5, TYPE, 25)).on("run 0 0 1 = 1", "log 1 = 300",
            "value 0 0 0 = 5");
    }

    private static void counting() {
        for (int count = 0; count <= 9; count++) {
            on("46: COUNT " + count).on(lines(COUNT, count, ADD, 1, BACK, 1)).on("run 0 0 1 = " + (count * 2 + 3), "value 0 0 0 = " + (count + 1));
        }
        on("46: the count is 0 at first, each time").on(lines(ADD, 1, BACK, 1, COUNT, 9)).on("run 0 0 1 = 3", "run 0 0 1 = 3", "value 0 0 0 = 2");
        on("46: COUNT anew").on(lines(COUNT, 9, COUNT, 1, ADD, 1, BACK, 1)).on("run 0 0 1 = 6", "value 0 0 0 = 2");
        on("46: COUNT 0 ends it").on(lines(COUNT, 9, COUNT, 0, ADD, 1, BACK, 1)).on("run 0 0 1 = 4", "value 0 0 0 = 1");
    }

    private static void goingBack() {
        on("46: BACK with no count").on(lines(BACK, 0, BACK, 9, WRITE, 1)).on("run 0 0 1 = 3", "value 0 0 0 = 1");
        on("46: BACK 0 goes on with itself").on(lines(COUNT, 3, BACK, 0, WRITE, 1)).on("run 0 0 1 = 6", "value 0 0 0 = 1");
        on("46: BACK up to the first one").on(lines(ADD, 1, COUNT, 1, WRITE, 5, BACK, 3)).on("run 0 0 1 = 30", "value 0 0 0 = 6");
        on("46: BACK beyond the first one").on(lines(ADD, 1, COUNT, 1, WRITE, 5, BACK, 4)).on("run 0 0 1 = 30", "value 0 0 0 = 6");
        for (int back = 0; back <= 9; back++) {
            on("46: BACK " + back + " from the third line").on(lines(MOVE, 1, WRITE, 1, BACK, back, COUNT, 1, BACK, 3)).on("run 0 0 1 = 30",
                "flatText 0 0 0 = " + reached(back));
        }
        on("46: BACK 9 from the eighth line").on(lines(TYPE, 0, TYPE, 1, TYPE, 2, TYPE, 3, TYPE, 4, COUNT, 1, MOVE, 1, BACK, 9)).on("run 0 0 1 = 30",
            "row 1 = abcdeabcdeabcdeabcde", "log 1 = 20");
        on("46: BACK 7 from the eighth line").on(lines(TYPE, 0, TYPE, 1, TYPE, 2, TYPE, 3, TYPE, 4, COUNT, 1, MOVE, 1, BACK, 7)).on("run 0 0 1 = 30",
            "row 1 = abcdeabcdeabcdeabcde");
        on("46: BACK 6 from the eighth line").on(lines(TYPE, 0, TYPE, 1, TYPE, 2, TYPE, 3, TYPE, 4, COUNT, 1, MOVE, 1, BACK, 6)).on("run 0 0 1 = 30",
            "row 1 = abcdebcdebcdebcdeb");
    }

    /** The cells that are written by MOVE, WRITE, BACK, COUNT and BACK 3, found by doing 30 lines one by one. */
    private static String reached(int back) {
        int[] cells = new int[12];
        int cell = 0;
        int count = 0;
        int at = 0;
        for (int step = 0; step < 30; step++) {
            if (at == 0) {
                cell = (cell + 1) % 12;
            } else if (at == 1) {
                cells[cell] = 1;
            } else if (at == 3) {
                count = 1;
            } else if (count > 0) {
                count--;
                at = Math.max(0, at - (at == 2 ? back : 3)) - 1;
            }
            at++;
        }
        StringBuilder b = new StringBuilder();
        for (int i = 0; i < 12; i++) {
            b.append(i == 0 ? "" : i % 3 == 0 ? ";" : ",").append(cells[i] == 1 ? "1" : "");
        }
        return b.toString();
    }

    private static void thirtySteps() {
        on("46: 29 and the last line").on(lines(COUNT, 6, ADD, 1, ADD, 1, ADD, 1, BACK, 3)).on("run 0 0 1 = 29", "value 0 0 0 = 21");
        on("46: 30 and the last line").on(lines(COUNT, 6, ADD, 1, ADD, 1, ADD, 1, BACK, 3, ADD, 50)).on("run 0 0 1 = 30", "value 0 0 0 = 71");
        on("46: 31 lines to do").on(lines(COUNT, 6, ADD, 1, ADD, 1, ADD, 1, BACK, 3, ADD, 50, ADD, 20)).on("run 0 0 1 = 30", "value 0 0 0 = 71");
        on("46: without an end").on(lines(ADD, 1, COUNT, 9, BACK, 2)).on("run 0 0 1 = 30", "value 0 0 0 = 10");
        on("46: an ADD that ends it in the 30th step", "set 0 0 0 number 990").on(lines(ADD, 1, COUNT, 9, BACK, 2)).on("run 0 0 1 = 30", "value 0 0 0 = 1000", "run 0 0 1 = 0");
        on("46: an ADD that ends it", "set 0 0 0 number 991").on(lines(ADD, 1, COUNT, 9, BACK, 2)).on("run 0 0 1 = 27", "value 0 0 0 = 1000");
        on("46: 30 letters and more are TYPEd by two runs").on(lines(TYPE, 0, TYPE, 1, TYPE, 2, COUNT, 1, BACK, 4)).on("run 0 0 1 = 30", "length 1 = 18", "run 0 0 1 = 30",
            "length 1 = 36", "run 0 0 1 = 6", "length 1 = 40", "run 0 0 1 = 0");
    }

    private static void longLogsByRunning() {
        on("46: 298 and two", "fill 0 1 1 298").on(lines(TYPE, 0, TYPE, 1)).on("run 1 0 1 = 2", "log 1 = 300", "row 1 = ab");
        on("46: 299 and two", "fill 0 1 1 299").on(lines(WRITE, 3, TYPE, 0, WRITE, 4, TYPE, 1)).on("set 0 0 0 number 9", "run 1 0 1 ! state", "log 1 = 299", "row 1 = ",
            "value 0 0 0 = 9");
        on("46: 300 and one", "fill 0 1 1 300").on(lines(WRITE, 3, TYPE, 0)).on("run {0,1} 0 1 ! state", "what 0 0 0 = 0");
        on("46: 300 and none", "fill 0 1 1 300").on(lines(WRITE, 3)).on("run 0 0 1 = 1", "value 0 0 0 = 3");
        on("46: 298, one to be sent and one", "fill 0 1 1 298", "put 1 1 0 25").on(lines(TYPE, 0)).on("run 1 0 1 = 1", "log 1 = 300", "row 1 = za");
        on("46: 299, one to be sent and one", "fill 0 1 1 299", "put 1 1 0 25").on(lines(WRITE, 3, TYPE, 0)).on("run 1 0 1 ! state", "viewed 1 1 = z", "log 1 = 299",
            "what 0 0 0 = 0");
        on("46: 300, own edits and no TYPE", "fill 0 1 1 300", "put 1 1 0 25").on(lines(WRITE, 3)).on("run 1 0 1 = 1", "viewed 1 1 = z");
        on("46: 300, own edits and TYPE", "fill 0 1 1 300", "put 1 1 0 25").on(lines(WRITE, 3, TYPE, 0)).on("run 1 0 1 ! state", "viewed 1 1 = z", "what 0 0 0 = 0");
        on("46: ended ahead of a TYPE that would be too much", "fill 0 1 1 300", "set 0 0 0 number 1000").on(lines(ADD, 1, TYPE, 0)).on("run 0 0 1 = 0");
        on("46: comments are about the same again", "write 0 1 abc", "fill 0 1 1 299", "comment 0 1 0 2 5", "put 1 1 1 3").on(lines(TYPE, 0)).on("run 1 0 1 ! state",
            "about 0 = 3");
    }

    private static void whoMayRun() {
        on("46: less than EDIT to the SHEET").on(lines(WRITE, 1)).each(0, 2, "give 0 0 1 %d", "run 1 0 1 ! right").on("give 0 0 1 3", "run 1 0 1 = 1");
        on("46: less than EDIT to the TEXT").on(lines(WRITE, 1)).each(0, 2, "give 0 1 1 %d", "run 1 0 1 ! right").on("give 0 1 1 3", "run 1 0 1 = 1");
        on("46: without lines", "run {2,3} 0 1 ! right", "run {0,1} 0 1 = 0");
        on("46: no such SHEET", "run 0 {-1,1,2,3,6,MIN,MAX} 1 ! index");
        on("46: no such TEXT", "run 0 0 {-1,0,2,3,6,MIN,MAX} ! index");
        on("46: no such person", "run {-1,4,MIN,MAX} 0 1 ! index");
        on("46: with several reasons", "fill 0 1 1 300").on(lines(TYPE, 1)).on("run {-1,4} {0,1} {0,1} ! index", "run {0,2} {-1,1,2,3} {0,1} ! index", "run {0,2} 0 {0,2,3} ! index",
            "run {2,3} 0 1 ! right", "run {0,1} 0 1 ! state");
    }
}
