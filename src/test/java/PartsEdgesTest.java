/** The edges of the promises 1 to 4: a new object, make, give and right. */
public final class PartsEdgesTest {
    public static void main(String[] args) {
        aNewObjectHasNothing();
        aNewObjectHasNoParts();
        persons();
        kinds();
        sixParts();
        whatIsMadeIsEmpty();
        firstOfTheReasonsToMakeNone();
        rightsThatMayBeGiven();
        whoMayGive();
        theOwner();
        firstOfTheReasonsNotToGive();
        rightsOfPersons();
        Check.end("PartsEdgesTest");
    }

    private static void aNewObjectHasNothing() {
        new Script("1: no lines", "wipe = 0");
        new Script("1: no shows", "redrawn = 0", "shown {0..3} {-1,0,9} ! index", "shownAt {0..3} 0 0 ! index", "freeze 0 0 ! index");
        new Script("1: no comments", "about {-1,0,11} ! index", "close 0 0 ! index", "take 0 0 ! index");
        new Script("1: no versions", "difference 0 0 0 ! index", "make 0 0", "difference {-1,0,4} 0 0 ! index",
            "difference 0 {-1,0,4} 0 ! index");
        new Script("1: the first version", "version = 0");
        new Script("1: the first part", "make 3 2 = 0");
        new Script("1: the first line", "line 0 0 = 1");
        new Script("1: the first show", "make 0 0", "show 0 0 0 0 = 0");
        new Script("1: the first comment", "make 0 1", "write 0 0 a", "comment 0 0 0 0 -1 = 0");
        new Script("1: no formulas", "rounds = 1");
    }

    private static void aNewObjectHasNoParts() {
        new Script("1: no parts",
            "give 0 0 1 1 ! index", "right {-1,0,5} 0 ! index",
            "set 0 0 0 number 1 ! index", "formula 0 0 0 0 0 0 0 0 ! index", "what 0 0 0 ! index", "value 0 0 0 ! index",
            "valueAnew 0 0 0 ! index",
            "put 0 0 0 0 ! index", "out 0 0 0 ! index", "see 0 0 ! index", "send 0 0 ! index", "undo 0 0 ! index",
            "view 0 0 ! index", "viewAt 0 0 0 ! index", "length 0 ! index", "token 0 0 ! index", "tokenByLog 0 0 ! index",
            "log 0 ! index", "block 0 0 ! index", "setSize 0 0 0 1 ! index", "size 0 0 ! index", "model 0 0 -1 ! index",
            "comment 0 0 0 0 -1 ! index", "slide 0 0 0 ! index", "drop 0 0 0 ! index", "box 0 0 -1 0 -1 0 ! index",
            "show 0 0 0 0 ! index", "flat 0 0 0 ! index", "flatAt 0 0 0 0 ! index", "takeIn 0 0 0 ! index", "run 0 0 0 ! index");
        new Script("1: no TEXT to change", "change 0 0 -1 1 = 0");
    }

    private static void persons() {
        new Script("2: the first and the last person", "make 0 0 = 0", "make 3 0 = 1", "right 0 0 = 3", "right 1 3 = 3");
        new Script("2: no such person", "make {-1,4,MIN,MAX} {0..2} ! index");
    }

    private static void kinds() {
        new Script("2: the first and the last kind", "make 0 0 = 0", "make 0 2 = 1");
        new Script("2: no such kind", "make {0,3} {-1,3,MIN,MAX} ! argument");
    }

    private static void sixParts() {
        for (int kind = 0; kind < 3; kind++) {
            new Script("2: six of a kind").each(0, 5, "make 1 " + kind + " = %d")
                .on("make {0..3} {0..2} ! state", "right 5 1 = 3", "right 6 1 ! index");
        }
        new Script("2: six parts of each kind", "make 0 0 = 0", "make 1 1 = 1", "make 2 2 = 2", "make 3 0 = 3", "make 0 1 = 4",
            "make 1 2 = 5", "make 0 0 ! state");
    }

    private static void whatIsMadeIsEmpty() {
        new Script("2: an empty SHEET", "make 2 0", "flatText 2 0 0 = ,,;,,;,,;,,", "what 2 0 {0..11} = 0", "value 2 0 {0..11} = 0");
        new Script("2: an empty TEXT", "make 2 1", "length 0 = 0", "log 0 = 0", "token 0 0 ! index", "tokenByLog 0 0 ! index",
            "view 2 0 = 0", "viewAt 2 0 0 ! index", "block 0 0 = 0", "flat 2 0 0 = 0", "size 0 0 = 30", "size 0 1 = 20",
            "size 0 2 = 10", "size 0 3 = 8", "undo 2 0 ! state", "see 2 0 = 0", "model 2 0 -1 = -1");
        new Script("2: an empty DECK", "make 2 2", "flat 2 0 3 = 0", "drop 2 0 0 ! index", "box 2 0 0 0 -1 0 ! index",
            "box 2 0 -1 {0..2} -1 0 = -1", "slide 2 0 0 = 1", "box 2 0 0 {0..2} -1 0 = -1");
    }

    private static void firstOfTheReasonsToMakeNone() {
        new Script("2: the person ahead of the kind", "make {-1,4} {-1,3} ! index");
        new Script("2: with six parts").each(0, 5, "make 0 0 = %d")
            .on("make {-1,4} {0,2} ! index", "make {0,3} {-1,3} ! argument", "make {-1,4} {-1,3} ! index");
    }

    private static void rightsThatMayBeGiven() {
        for (int kind = 0; kind < 3; kind++) {
            new Script("3: each right", "make 0 " + kind, "give 0 0 3 0 = 0", "give 0 0 3 1 = 0", "give 0 0 3 2 = 1",
                "give 0 0 3 3 = 2", "give 0 0 3 3 = 3", "give 0 0 3 0 = 3", "right 0 3 = 0", "right 0 1 = 0", "right 0 2 = 0");
        }
        new Script("3: no such right", "make 0 0", "give 0 0 {1,3} {-1,4,MIN,MAX} ! argument", "right 0 {1..3} = 0");
        new Script("3: no such part", "make 0 0", "make 0 1", "give 0 {-1,2,5,6,MIN,MAX} 1 1 ! index", "give 0 {0,1} 1 1 = 0");
        new Script("3: no such person", "make 0 0", "give {-1,4,MIN,MAX} 0 1 1 ! index", "give 0 0 {-1,4,MIN,MAX} 1 ! index");
        new Script("3: six parts").each(0, 5, "make 1 0 = %d", "give 1 %d 2 3 = 0").on("give 1 6 2 3 ! index");
    }

    private static void whoMayGive() {
        new Script("3: who is not the owner", "make 1 0", "give {0,2,3} 0 0 0 ! right").each(1, 3,
            "give 1 0 2 %d", "give 2 0 0 {0..3} ! right", "give 2 0 2 {0..3} ! right");
        new Script("3: of another part", "make 1 0", "make 2 0", "give 1 1 0 1 ! right", "give 2 0 0 1 ! right",
            "give 1 0 0 1 = 0", "give 2 1 0 2 = 0", "right 0 0 = 1", "right 1 0 = 2");
    }

    private static void theOwner() {
        new Script("3: nobody gives to the owner", "make 1 0", "give {0..3} 0 1 {0..3} ! argument", "right 0 1 = 3");
    }

    private static void firstOfTheReasonsNotToGive() {
        new Script("3: with several reasons", "make 1 0",
            "give {-1,4} 0 {0,1} {-1,4} ! index", "give {0,1} {-1,1} {0,1} {-1,4} ! index", "give {0,1} 0 {-1,4} {-1,4} ! index",
            "give {0,2,3} 0 {0,2} {-1,4} ! argument", "give {0,2,3} 0 1 {-1,0,3,4} ! argument");
    }

    private static void rightsOfPersons() {
        new Script("4: at first", "make 2 0", "right 0 {0,1,3} = 0", "right 0 2 = 3");
        new Script("4: no such part or person", "make 2 0", "right {-1,1,6,MIN,MAX} {-1,0,3,4} ! index",
            "right 0 {-1,4,MIN,MAX} ! index");
        new Script("4: as given").each(0, 3, "make 0 0", "give 0 %d 3 %d", "right %d 3 = %d", "right %d 0 = 3");
    }
}
