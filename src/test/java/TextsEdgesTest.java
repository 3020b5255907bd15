/** The edges of the promises 18 to 25: length, token, tokenByLog, log, block, setSize, size and model. */
public final class TextsEdgesTest {
    /** A TEXT and a SHEET of the person 0, a DECK and a TEXT of the person 1. */
    private static final String[] PARTS = {"make 0 1", "make 0 0", "make 1 2", "make 1 1", "give 0 0 1 3"};
    private static final String FORTY = "abcdefghijklmnopqrstuvwxyzabcdefghijklmn";

    public static void main(String[] args) {
        rows();
        logs();
        noSuchText();
        blocks();
        blocksOfOneSort();
        placesOfBlocks();
        setSizes();
        sizesThatWere();
        whoMaySetSizes();
        sizesOfSorts();
        sizesByModels();
        modelsThatLeadBack();
        whoMayGiveModels();
        Check.end("TextsEdgesTest");
    }

    private static Script on(String about, String row, String... rows) {
        return new Script(about, PARTS).on(row.isEmpty() ? "length 0 = 0" : "write 0 0 " + row).on(rows);
    }

    private static void rows() {
        on("18: none", "", "length {0,3} = 0");
        on("18: one", "z", "length 0 = 1", "length 3 = 0");
        on("18: forty", FORTY, "length 0 = 40", "out 0 0 0", "length 0 = 40", "send 0 0", "length 0 = 39");
        for (String call : new String[] {"19: token", "20: tokenByLog"}) {
            String name = call.substring(4);
            on(call + " of an empty row", "", name + " 0 {-1,0,1,MIN,MAX} ! index");
            on(call + " of a row of one", "z", name + " 0 0 = 25", name + " 0 {-1,1,MIN,MAX} ! index");
            on(call + " of forty", FORTY, name + " 0 0 = 0", name + " 0 39 = 13", name + " 0 {-1,40,MIN,MAX} ! index");
            on(call + " of each sort", "", "show 0 1 0 0", "write 0 0 aHR0", name + " 0 0 = 0", name + " 0 1 = 100", name + " 0 2 = 103",
                name + " 0 3 = 200");
            on(call + " when fewer are left", "abc", "out 0 0 0", name + " 0 2 = 2", "send 0 0", name + " 0 0 = 1", name + " 0 1 = 2",
                name + " 0 2 ! index");
            on(call + " of own edits", "ab", "put 0 0 0 25", name + " 0 0 = 0", name + " 0 2 ! index");
            on(call + " behind void edits", "ab", "send 1 0", "out 0 0 0", "out 1 0 0", "send 0 0", "send 1 0", name + " 0 0 = 1", name + " 0 1 ! index");
        }
        on("20: by a log of 300", "abc", "fill 0 1 0 300", "rowByLog 0 = abc", "row 0 = abc");
        on("20: by what was undone", "abc", "undo 0 0", "undo 0 0", "tokenByLog 0 0 = 0", "tokenByLog 0 1 ! index");
    }

    private static void logs() {
        on("21: none", "", "log {0,3} = 0");
        on("21: each edit", "abc", "log 0 = 3", "out 0 0 0", "log 0 = 3", "send 0 0", "log 0 = 4", "undo 0 0", "log 0 = 5", "log 3 = 0");
        on("21: 300", "", "fill 0 1 0 300", "log 0 = 300", "length 0 = 0");
    }

    private static void noSuchText() {
        on("18: no such TEXT", "abc", "length {-1,1,2,4,5,6,MIN,MAX} ! index");
        on("19: no such TEXT", "abc", "token {-1,1,2,4,6,MIN,MAX} {-1,0,3} ! index");
        on("20: no such TEXT", "abc", "tokenByLog {-1,1,2,4,6,MIN,MAX} {-1,0,3} ! index");
        on("21: no such TEXT", "abc", "log {-1,1,2,4,5,6,MIN,MAX} ! index");
        on("22: no such TEXT", "abc", "block {-1,1,2,4,6,MIN,MAX} {-1,0,3,4} ! index");
        on("24: no such TEXT", "abc", "size {-1,1,2,4,6,MIN,MAX} {0,4} ! index");
        new Script("18: the sixth part").each(0, 4, "make 0 0 = %d").on("make 0 1 = 5", "length 5 = 0", "length 6 ! index", "log 5 = 0", "log 6 ! index",
            "block 5 0 = 0", "block 6 0 ! index", "size 5 0 = 30", "size 6 0 ! index");
    }

    /** The numbers are those of the places, the length being the last one. */
    private static void is(String row, int... numbers) {
        Script s = on("22: " + row, row);
        for (int i = 0; i < numbers.length; i++) {
            s.on("block 0 " + i + " = " + numbers[i]);
        }
        s.on("block 0 {-1," + numbers.length + ",MIN,MAX} ! index");
    }

    private static void blocks() {
        is("", 0);
        is("a", 0, 0);
        is("ab", 0, 0, 0);
        is("H", 100, 100);
        is("Ha", 100, 100, 100);
        is("aH", 0, 100, 100);
        is("S", 1, 1);
        is("B", 0, 0);
        is("R", 1, 1);
        is("HS", 100, 101, 101);
        is("SH", 1, 100, 100);
        is("SHS", 1, 100, 101, 101);
        is("HSSHS", 100, 101, 102, 200, 201, 201);
        is("HRSRHR", 100, 1, 101, 2, 200, 3, 3);
        is("SRSBS", 1, 1, 2, 0, 3, 3);
        is("HBaSb", 100, 0, 0, 101, 101, 101);
        is("BHBSBRB", 0, 100, 0, 101, 0, 1, 0, 0);
        on("22: a FIELD is in a block", "", "show 0 1 0 0", "write 0 0 0H0", "block 0 0 = 0", "block 0 1 = 100", "block 0 2 = 100", "block 0 3 = 100");
    }

    private static void blocksOfOneSort() {
        on("22: forty HEADs", "H".repeat(40), "block 0 0 = 100", "block 0 39 = 4000", "block 0 40 = 4000");
        on("22: forty SUBs", "S".repeat(40), "block 0 0 = 1", "block 0 39 = 40", "block 0 40 = 40");
        on("22: forty REMARKs", "R".repeat(40), "block 0 0 = 1", "block 0 39 = 40", "block 0 40 = 40");
        on("22: forty BODYs", "B".repeat(40), "block 0 0 = 0", "block 0 39 = 0", "block 0 40 = 0");
        on("22: a SUB behind 39 HEADs", "H".repeat(39) + "S", "block 0 38 = 3900", "block 0 39 = 3901", "block 0 40 = 3901");
        on("22: the flat text, too", "H".repeat(39) + "S", "flat 0 0 0 = 231", "flatAt 0 0 0 225 = .", "flatAt 0 0 0 226 = 3", "flatAt 0 0 0 229 = 1",
            "flatAt 0 0 0 230 =  ", "flatAt 0 0 0 231 ! index");
    }

    private static void placesOfBlocks() {
        on("22: of the row, not of the view", "a", "put 0 0 0 100", "block 0 0 = 0", "block 0 1 = 0", "block 0 2 ! index", "send 0 0", "block 0 0 = 100",
            "block 0 2 = 100");
        on("22: of forty", FORTY, "block 0 {0,39,40} = 0", "block 0 {-1,41,MIN,MAX} ! index");
    }

    private static void setSizes() {
        on("23: the least and the greatest", "", "setSize 0 0 0 1 = 30", "size 0 0 = 1", "setSize 0 0 0 99 = 1", "size 0 0 = 99", "setSize 0 0 3 1 = 8",
            "size 0 3 = 1", "setSize 0 0 3 99 = 1", "size 0 3 = 99", "size 0 1 = 20", "size 0 2 = 10");
        on("23: taken back", "", "setSize 0 0 1 50 = 20", "setSize 0 0 1 0 = 50", "size 0 1 = 20", "setSize 0 0 1 0 = 20");
        on("23: no such size", "", "setSize 0 0 {0..3} {-1,100,MIN,MAX} ! argument");
        on("23: no such sort", "", "setSize 0 0 {-1,4,MIN,MAX} {0,1,99,100} ! argument", "setSize 0 0 {100,103} 1 ! argument");
        on("23: no such TEXT", "", "setSize 0 {-1,1,2,4,6,MIN,MAX} 0 1 ! index");
        on("23: no such person", "", "setSize {-1,4,MIN,MAX} 0 0 1 ! index");
    }

    private static void sizesThatWere() {
        on("23: whoever set it", "", "setSize 1 0 0 40 = 30", "setSize 0 0 0 41 = 40", "setSize 1 0 0 0 = 41", "setSize 0 0 0 0 = 30");
        on("23: that of a model", "", "give 1 3 0 1", "setSize 1 3 0 77", "model 0 0 3", "setSize 0 0 0 5 = 77", "setSize 0 0 0 0 = 5", "setSize 0 0 0 0 = 77",
            "size 0 0 = 77", "size 3 0 = 77");
    }

    private static void whoMaySetSizes() {
        on("23: less than EDIT", "").each(0, 2, "give 0 0 2 %d", "setSize 2 0 {0,3} {0,99} ! right").on("give 0 0 2 3", "setSize 2 0 3 99 = 8");
        on("23: with several reasons", "", "setSize {-1,4} {0,1} {0,4} {0,100} ! index", "setSize {0,2} {-1,1,2,6} {0,4} {0,100} ! index",
            "setSize {0,2} 0 {-1,4} {0,100} ! argument", "setSize {0,2} 0 {0,3} {-1,100} ! argument", "setSize {2,3} 0 {0,3} {0,1,99} ! right");
    }

    private static void sizesOfSorts() {
        on("24: at first", "", "size {0,3} 0 = 30", "size {0,3} 1 = 20", "size {0,3} 2 = 10", "size {0,3} 3 = 8");
        on("24: no such sort", "", "size 0 {-1,4,100,MIN,MAX} ! argument");
    }

    private static void sizesByModels() {
        Script s = new Script("24: a chain of six TEXTs").each(0, 5, "make 0 1 = %d");
        s.each(1, 5, "model 0 %d 0 = -1", "model 0 %d -1 = 0");
        for (int i = 0; i < 5; i++) {
            s.on("model 0 " + i + " " + (i + 1) + " = -1");
        }
        s.on("setSize 0 5 0 71", "size {0..5} 0 = 71", "setSize 0 3 0 72 = 71", "size {0..3} 0 = 72", "size {4,5} 0 = 71", "size {0..5} 1 = 20",
            "setSize 0 5 0 0", "size {0..3} 0 = 72", "size {4,5} 0 = 30", "setSize 0 3 0 0", "size {0..5} 0 = 30", "model 0 5 {0..5} ! state",
            "model 0 4 {0..4} ! state", "model 0 2 {0,1,2} ! state", "model 0 0 0 ! state", "model 0 2 -1 = 3", "setSize 0 5 3 9", "size {0..2} 3 = 8",
            "size {3..5} 3 = 9", "model 0 5 0 = -1", "size {0..2} 3 = 8", "size {3..5} 3 = 9", "setSize 0 5 3 0",
            "setSize 0 2 3 4", "size {0..5} 3 = 4", "model 0 2 {2..5} ! state", "model 0 2 {0,1} ! state");
        on("24: a model may be seen through without a right", "", "give 1 3 0 1", "setSize 1 3 0 77", "model 0 0 3", "give 1 3 0 0", "size 0 0 = 77");
        on("24: sizes that are set later", "", "give 1 3 0 1", "model 0 0 3", "setSize 1 3 2 1", "size 0 2 = 1", "setSize 1 3 2 99", "size 0 2 = 99",
            "setSize 1 3 2 0", "size 0 2 = 10");
    }

    private static void modelsThatLeadBack() {
        on("25: itself", "", "model 0 0 0 ! state", "model 1 3 3 ! state");
        on("25: of two", "", "give 1 3 0 3", "model 0 0 3 = -1", "model 0 3 0 ! state", "model 0 0 3 = 3", "model 0 0 -1 = 3", "model 0 3 0 = -1",
            "model 0 0 3 ! state", "model 0 3 0 = 0", "model 0 3 -1 = 0", "model 0 3 -1 = -1");
        on("25: none", "", "model 0 0 -1 = -1");
        on("25: no such model", "", "model 0 0 {-2,1,2,4,6,MIN,MAX} ! index");
        on("25: no such TEXT", "", "model 0 {-1,1,2,4,6,MIN,MAX} {-1,0} ! index");
        on("25: no such person", "", "model {-1,4,MIN,MAX} 0 {-1,0} ! index");
    }

    private static void whoMayGiveModels() {
        on("25: less than EDIT to the TEXT", "", "give 1 3 2 3").each(0, 2, "give 0 0 2 %d", "model 2 0 {-1,0,3} ! right").on("give 0 0 2 3",
            "model 2 0 3 = -1", "model 2 0 -1 = 3");
        on("25: less than SEE to the model", "", "model 0 0 3 ! right").each(1, 3, "give 1 3 0 %d", "model 0 0 3", "model 0 0 -1 = 3").on("give 1 3 0 0",
            "model 0 0 3 ! right");
        on("25: with several reasons", "", "model {-1,4} {0,1} {-1,0,1} ! index", "model {0,2} {-1,1,2,6} {-1,0} ! index", "model {0,2} 0 {-2,1,6} ! index",
            "model 2 0 0 ! right", "give 1 3 0 3", "model 0 0 3", "give 1 3 0 2", "model 0 3 0 ! right", "give 1 3 0 3", "give 0 0 1 0", "model 1 3 0 ! right",
            "give 0 0 1 1", "model 1 3 0 ! state");
    }
}
