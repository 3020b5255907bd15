/** The edges of the promises 30 to 32: slide, drop and box. */
public final class DecksEdgesTest {
    /** A DECK of the person 0, a SHEET, a TEXT "abcde" with the shows <a> to <e>, and a DECK of the person 1. */
    private static final String[] PARTS = {"make 0 2", "make 0 0", "make 0 1", "make 1 2", "write 0 2 abcde", "show 0 2 0 0", "show 0 2 1 1", "show 0 2 2 2",
        "show 0 2 3 3", "show 0 2 4 4"};

    public static void main(String[] args) {
        placesOfSlides();
        sixSlides();
        whatIsInserted();
        whoMayInsert();
        dropped();
        whoMayDrop();
        boxesThereAre();
        showsInBoxes();
        stepsOfBoxes();
        boxesOfTheMaster();
        whoMaySetBoxes();
        Check.end("DecksEdgesTest");
    }

    private static Script on(String about, String... rows) {
        return new Script(about, PARTS).on(rows);
    }

    private static void placesOfSlides() {
        on("30: the first one", "slide 0 0 {-1,1,MIN,MAX} ! index", "slide 0 0 0 = 1");
        on("30: ahead and behind", "slide 0 0 0 = 1", "box 0 0 0 0 0 0", "slide 0 0 {-1,2,MIN,MAX} ! index", "slide 0 0 0 = 2", "box 0 0 0 0 1 0",
            "flatText 0 0 0 = =<b>=<a>", "slide 0 0 {-1,3} ! index", "slide 0 0 2 = 3", "box 0 0 2 0 2 0", "flatText 0 0 0 = =<b>=<a>=<c>", "slide 0 0 1 = 4",
            "flatText 0 0 0 = =<b>==<a>=<c>");
        on("30: no such DECK", "slide 0 {-1,1,2,4,6,MIN,MAX} 0 ! index");
        on("30: no such person", "slide {-1,4,MIN,MAX} 0 0 ! index");
    }

    private static void sixSlides() {
        on("30: six").each(0, 5, "slide 0 0 %d").on("flat 0 0 0 = 6", "slide 0 0 {0..6} ! state", "slide 0 0 {-1,7} ! index", "drop 0 0 5 = 5",
            "slide 0 0 5 = 6", "slide 0 0 0 ! state");
        on("30: six in each DECK", "give 1 3 0 3").each(0, 5, "slide 0 0 0", "slide 0 3 0").on("slide 0 {0,3} 0 ! state", "flatText 0 {0,3} 0 = ======");
        on("30: the sixth ahead of five").each(0, 4, "slide 0 0 %d", "box 0 0 %d 1 %d 0").on("slide 0 0 0 = 6", "flatText 0 0 0 = ==<a>=<b>=<c>=<d>=<e>");
        on("30: the sixth behind five").each(0, 4, "slide 0 0 %d", "box 0 0 %d 1 %d 0").on("slide 0 0 5 = 6", "flatText 0 0 0 = =<a>=<b>=<c>=<d>=<e>=");
    }

    private static void whatIsInserted() {
        on("30: a slide that holds nothing", "slide 0 0 0", "box 0 0 0 {0..2} 0 3", "slide 0 0 0", "box 0 0 0 {0..2} -1 0 = -1", "flatText 0 0 3 = ==<a><a><a>");
        on("30: its steps are 0", "slide 0 0 0", "version = 0", "box 0 0 0 {0..2} -1 3", "slide 0 0 0", "drop 0 0 1", "version = 1", "difference 0 1 0 = 0");
        on("30: the master shows in it", "box 0 0 -1 2 4 0", "slide 0 0 0", "flatText 0 0 0 = =<e>");
    }

    private static void whoMayInsert() {
        on("30: less than EDIT").each(0, 2, "give 0 0 2 %d", "slide 2 0 0 ! right").on("give 0 0 2 3", "slide 2 0 0 = 1");
        on("30: EDIT to another DECK", "slide 0 3 0 ! right", "slide 1 0 0 ! right", "slide 1 3 0 = 1");
        on("30: with several reasons").each(0, 5, "slide 0 0 %d").on("slide {-1,4} {0,1} {0,7} ! index", "slide {0,2} {-1,1,2,6} {0,7} ! index",
            "slide {0,2} 0 {-1,7} ! index", "slide 2 0 {0,6} ! right", "slide 0 0 {0,6} ! state");
    }

    private static void dropped() {
        on("31: of none", "drop 0 0 {-1,0,MIN,MAX} ! index");
        on("31: the only one", "slide 0 0 0", "drop 0 0 {-1,1,MIN,MAX} ! index", "drop 0 0 0 = 0", "drop 0 0 0 ! index", "flat 0 0 3 = 0");
        on("31: the first, one between and the last").each(0, 4, "slide 0 0 %d", "box 0 0 %d 1 %d 0").on("drop 0 0 {-1,5} ! index", "drop 0 0 4 = 4",
            "flatText 0 0 0 = =<a>=<b>=<c>=<d>", "drop 0 0 4 ! index", "drop 0 0 0 = 3", "flatText 0 0 0 = =<b>=<c>=<d>", "drop 0 0 1 = 2",
            "flatText 0 0 0 = =<b>=<d>");
        on("31: of six").each(0, 5, "slide 0 0 %d").on("box 0 0 5 2 3 1", "drop 0 0 6 ! index", "drop 0 0 0 = 5", "flatText 0 0 1 = =====<d>", "drop 0 0 4 = 4",
            "slide 0 0 4 = 5", "flatText 0 0 3 = =====");
        on("31: the master stays", "box 0 0 -1 0 0 0", "slide 0 0 0", "drop 0 0 0 = 0", "drop 0 0 -1 ! index", "box 0 0 -1 0 -1 0 = 0");
        on("31: the steps go along", "slide 0 0 0", "slide 0 0 0", "box 0 0 1 0 0 3", "drop 0 0 0", "flatText 0 0 2 = =", "flatText 0 0 3 = =<a>");
        on("31: no such DECK", "slide 0 0 0", "drop 0 {-1,1,2,3,4,6,MIN,MAX} 0 ! index");
        on("31: no such person", "slide 0 0 0", "drop {-1,4,MIN,MAX} 0 0 ! index");
    }

    private static void whoMayDrop() {
        on("31: less than EDIT", "slide 0 0 0").each(0, 2, "give 0 0 2 %d", "drop 2 0 0 ! right").on("give 0 0 2 3", "drop 2 0 0 = 0");
        on("31: with several reasons", "slide 0 0 0", "drop {-1,4} {0,1} {0,1} ! index", "drop 2 {-1,1,3} 0 ! index", "drop 2 0 {-1,1} ! index",
            "drop {1..3} 0 0 ! right");
    }

    private static void boxesThereAre() {
        on("32: the first and the last box", "slide 0 0 0", "box 0 0 0 {0,2} 3 0 = -1", "box 0 0 0 {0,2} 3 0 = 3", "box 0 0 0 {-1,3,MIN,MAX} 3 0 ! index",
            "flatText 0 0 0 = =<d><d>", "box 0 0 0 1 1 0 = -1", "flatText 0 0 0 = =<d><b><d>");
        on("32: the first and the last slide").each(0, 5, "slide 0 0 %d").on("box 0 0 {0,5} 1 2 0 = -1", "flatText 0 0 0 = =<c>=====<c>",
            "box 0 0 {-2,6,MIN,MAX} 1 2 0 ! index");
        on("32: no slides", "box 0 0 {-2,0,1} 0 0 0 ! index", "box 0 0 -1 0 0 0 = -1");
        on("32: no such DECK", "slide 0 0 0", "box 0 {-1,1,2,4,6,MIN,MAX} -1 0 0 0 ! index", "box 0 3 0 0 0 0 ! index");
        on("32: no such person", "slide 0 0 0", "box {-1,4,MIN,MAX} 0 0 0 0 0 ! index");
    }

    private static void showsInBoxes() {
        on("32: the first and the last show", "slide 0 0 0", "box 0 0 0 0 0 0 = -1", "box 0 0 0 0 4 0 = 0", "box 0 0 0 0 0 0 = 4", "box 0 0 0 0 -1 0 = 0",
            "box 0 0 0 0 -1 0 = -1", "box 0 0 0 0 {-2,5,MIN,MAX} 0 ! index", "box 0 0 -1 0 {-2,5,MIN,MAX} 0 ! index");
        new Script("32: no shows", "make 0 2", "box 0 0 -1 0 {-2,0,1} 0 ! index", "box 0 0 -1 0 -1 0 = -1");
        on("32: ten shows").each(5, 9, "show 0 1 0 0 = %d").on("box 0 0 -1 0 9 0 = -1", "box 0 0 -1 0 10 0 ! index", "box 0 0 -1 0 -1 0 = 9");
        on("32: of a part to which one has no right", "box 1 3 -1 0 0 0 = -1", "slide 1 3 0", "flatText 1 3 0 = =#");
    }

    private static void stepsOfBoxes() {
        on("32: the least and the greatest step", "slide 0 0 0").each(0, 3, "box 0 0 0 0 0 %d", "flatText 0 0 %d = =<a>").on("flatText 0 0 {0..2} = =",
            "box 0 0 0 0 0 0 = 0", "flatText 0 0 0 = =<a>", "box 0 0 {-1,0} {0..2} {-1,0} {-1,4,MIN,MAX} ! argument");
        on("32: of a master's box", "slide 0 0 0").each(0, 3, "box 0 0 -1 0 0 %d", "flatText 0 0 %d = =<a>").on("flatText 0 0 {0..2} = =");
        for (int step = 0; step < 4; step++) {
            Script s = on("32: shown from its step on", "slide 0 0 0", "box 0 0 0 1 2 " + step);
            for (int at = 0; at < 4; at++) {
                s.on("flatText 0 0 " + at + " = =" + (step <= at ? "<c>" : ""));
            }
        }
    }

    private static void boxesOfTheMaster() {
        on("32: where the slide's holds nothing", "slide 0 0 {0,1}", "box 0 0 -1 0 0 2 = -1", "box 0 0 0 0 -1 0", "box 0 0 1 0 1 3", "flatText 0 0 {0,1} = ==",
            "flatText 0 0 2 = =<a>=", "flatText 0 0 3 = =<a>=<b>", "box 0 0 0 0 -1 3", "flatText 0 0 2 = =<a>=", "box 0 0 1 0 -1 0 = 1",
            "flatText 0 0 2 = =<a>=<a>", "box 0 0 -1 0 -1 0 = 0", "flatText 0 0 3 = ==");
        on("32: box by box", "slide 0 0 0", "box 0 0 -1 0 0 0", "box 0 0 -1 1 1 0", "box 0 0 -1 2 2 0", "flatText 0 0 0 = =<a><b><c>", "box 0 0 0 1 4 0",
            "flatText 0 0 0 = =<a><e><c>");
        on("32: the other DECK's master", "give 1 3 0 3", "slide 0 {0,3} 0", "box 0 3 -1 0 0 0", "flatText 0 0 0 = =", "flatText 0 3 0 = =<a>");
    }

    private static void whoMaySetBoxes() {
        on("32: less than EDIT", "slide 0 0 0").each(0, 2, "give 0 0 2 %d", "box 2 0 {-1,0} 0 {-1,0} 0 ! right").on("give 0 0 2 3", "box 2 0 {-1,0} 0 4 3 = -1");
        on("32: with several reasons", "slide 0 0 0", "box {-1,4} 0 {-1,1} 0 0 {0,4} ! index", "box {0,2} {-1,1,2,4} -1 0 0 {0,4} ! index",
            "box {0,2} 0 {-2,1} 0 0 {0,4} ! index", "box {0,2} 0 0 {-1,3} 0 {0,4} ! index", "box {0,2} 0 0 0 {-2,5} {0,4} ! index",
            "box {0,2} 0 {-1,0} 0 {-1,0} {-1,4} ! argument", "box {1..3} 0 {-1,0} 0 {-1,0} {0,3} ! right");
    }
}
