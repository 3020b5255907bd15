/** The edges of the promises 42 and 43: version and difference. */
public final class VersionsEdgesTest {
    public static void main(String[] args) {
        five();
        versionsThereAre();
        cells();
        formulas();
        blocks();
        blocksOfForty();
        slides();
        masters();
        partsInSome();
        Check.end("VersionsEdgesTest");
    }

    private static void five() {
        new Script("42: five", "version = 0", "version = 1", "version = 2", "version = 3", "version = 4", "version ! state", "make 0 0", "version ! state",
            "difference 4 4 0 = 0", "difference 5 0 0 ! index");
    }

    private static void versionsThereAre() {
        new Script("43: none", "make 0 0", "difference {-1,0,1} 0 0 ! index", "difference 0 {-1,0,1} 0 ! index");
        new Script("43: one", "make 0 0", "version = 0", "difference 0 0 0 = 0", "difference {-1,1,MIN,MAX} 0 0 ! index", "difference 0 {-1,1,MIN,MAX} 0 ! index",
            "difference 0 0 {-1,1,MIN,MAX} ! index");
        new Script("43: five", "make 0 0", "version = 0", "version = 1", "version = 2", "version = 3", "set 0 0 0 number 1", "version = 4", "difference 0 4 0 = 1",
            "difference 4 0 0 = 1", "difference {0,4} 5 0 ! index", "difference 5 {0,4} 0 ! index", "difference -1 4 0 ! index", "difference 0 4 6 ! index");
        new Script("43: six parts").each(0, 5, "make 0 0 = %d").on("version", "set 0 {0,5} 0 number 1", "version", "difference 0 1 {0,5} = 1", "difference 0 1 {1..4} = 0",
            "difference 0 1 {-1,6} ! index");
        new Script("43: no parts", "version", "difference 0 0 {-1,0,1} ! index");
    }

    private static void cells() {
        new Script("43: none, one and all cells", "make 0 0", "version = 0", "set 0 0 0 number 0", "version = 1", "set 0 0 {0..11} number 0", "version = 2",
            "set 0 0 {0..11} number 1", "version = 3", "set 0 0 11 blank 0", "version = 4", "difference 0 0 0 = 0", "difference 0 1 0 = 1", "difference 1 0 0 = 1",
            "difference 0 2 0 = 12", "difference 1 2 0 = 11", "difference 2 3 0 = 12", "difference 3 4 0 = 1", "difference 4 0 0 = 11", "difference 2 4 0 = 12");
        new Script("43: the same number, a blank one, a number that counts for nothing", "make 0 0", "set 0 0 3 number 5", "version", "set 0 0 3 number 5",
            "set 0 0 4 blank 7", "version", "difference 0 1 0 = 0", "set 0 0 3 blank 5", "version", "difference 1 2 0 = 1", "set 0 0 3 number 6", "version",
            "difference 0 3 0 = 1");
        new Script("43: contents, not values", "make 0 0", "set 0 0 3 number 1", "formula 0 0 0 0 0 3 0 3", "formula 0 0 1 4 0 3 0 0", "version", "set 0 0 3 number 2", "version",
            "value 0 0 0 = 4", "what 0 0 4 = 1", "difference 0 1 0 = 1");
    }

    private static void formulas() {
        new Script("43: a formula and a number of the same value", "make 0 0", "formula 0 0 0 0 0 1 0 1", "version", "set 0 0 0 number 0", "version", "difference 0 1 0 = 1");
        new Script("43: what a cell had ahead", "make 0 0", "set 0 0 0 number 5", "version", "formula 0 0 {0,1} 1 0 4 0 5", "formula 0 0 2 3 0 4 0 5", "set 0 0 0 number 5",
            "set 0 0 1 blank 5", "formula 0 0 2 4 0 4 0 5", "set 0 0 2 blank 0", "version", "difference 0 1 0 = 0");
        for (String other : new String[] {"1 0 4 0 5", "0 1 4 0 5", "0 0 3 0 5", "0 0 4 1 5", "0 0 4 0 6"}) {
            new Script("43: a formula that differs in one of its cells, SHEETs or kind: " + other, "make 0 0", "make 0 0", "formula 0 0 0 0 0 4 0 5", "version",
                "formula 0 0 0 " + other, "version", "formula 0 0 0 0 0 4 0 5", "version", "difference 0 1 0 = 1", "difference 1 2 0 = 1", "difference 0 2 0 = 0");
        }
        new Script("43: each kind of formula is another one", "make 0 0", "formula 0 0 0 0 0 4 0 4", "version", "formula 0 0 0 1 0 4 0 4", "version", "formula 0 0 0 2 0 4 0 4",
            "version", "formula 0 0 0 3 0 4 0 4", "version", "formula 0 0 0 4 0 4 0 4", "version", "difference 0 {1..4} 0 = 1", "difference 1 {2..4} 0 = 1",
            "difference 2 {3,4} 0 = 1", "difference 3 4 0 = 1");
    }

    /** By how much two rows of one TEXT differ. */
    private static void differ(String one, String other, int want) {
        new Script("43: " + one + " and " + other, "make 0 1", "make 0 0", "show 0 1 0 {0,1}", "version = 0").on(one.isEmpty() ? "length 0 = 0" : "write 0 0 " + one)
            .on("version = 1", "takeIn 0 1 0 = 3", "out 0 0 {0,0,0}", "send 0 0", "length 0 = 0").on(other.isEmpty() ? "length 0 = 0" : "write 0 0 " + other)
            .on("version = 2", "difference 1 2 0 = " + want, "difference 2 1 0 = " + want, "difference 1 1 0 = 0", "difference 2 2 0 = 0");
    }

    private static void blocks() {
        differ("", "", 0);
        differ("", "a", 1);
        differ("", "H", 1);
        differ("", "HH", 2);
        differ("a", "a", 0);
        differ("a", "b", 2);
        differ("a", "aH", 1);
        differ("a", "Ha", 2);
        differ("a", "Ba", 0);
        differ("ab", "ba", 2);
        differ("Ha", "Sa", 2);
        differ("Ha", "Ha", 0);
        differ("Ba", "Ra", 2);
        differ("HaHa", "Ha", 1);
        differ("HaHaHa", "Ha", 2);
        differ("HaHa", "HaHaHaHa", 2);
        differ("HaSb", "SbHa", 0);
        differ("HaSb", "SaHb", 4);
        differ("H", "HH", 1);
        differ("aBa", "aBaBa", 1);
        differ("BaBb", "bBa", 0);
        differ("aB", "a", 1);
        differ("aB", "Ba", 1);
        differ("0", "0", 0);
        differ("0", "1", 2);
        differ("Ha0", "Ha1", 2);
        differ("Hab", "Ha", 2);
        differ("HaHab", "HabHa", 0);
        differ("HaHaHb", "HbHaHb", 2);
    }

    private static void blocksOfForty() {
        differ("H".repeat(40), "H".repeat(40), 0);
        differ("H".repeat(40), "S".repeat(40), 80);
        differ("H".repeat(40), "", 40);
        differ("H".repeat(40), "H".repeat(39), 1);
        differ("H".repeat(39) + "S", "S" + "H".repeat(39), 0);
        differ("H".repeat(39) + "S", "S".repeat(39) + "H", 76);
        differ("a" + "H".repeat(39), "H".repeat(39) + "B", 2);
        differ("abcdefghijklmnopqrstuvwxyzabcdefghijklmn", "abcdefghijklmnopqrstuvwxyzabcdefghijklmn", 0);
        differ("abcdefghijklmnopqrstuvwxyzabcdefghijklmn", "abcdefghijklmnopqrstuvwxyzabcdefghijklmo", 2);
        new Script("43: the row, not the view", "make 0 1", "write 0 0 a", "version", "put 0 0 0 3", "version", "send 0 0", "version", "difference 0 1 0 = 0",
            "difference 1 2 0 = 2");
    }

    private static void slides() {
        new Script("43: slides that are in one alone", "make 0 2", "version", "slide 0 0 0", "version").each(1, 5, "slide 0 0 0").on("version", "drop 0 0 5", "version",
            "difference 0 1 0 = 1", "difference 1 2 0 = 5", "difference 0 2 0 = 6", "difference 2 0 0 = 6", "difference 2 3 0 = 1", "difference 0 3 0 = 5");
        new Script("43: slides with other boxes", "make 0 2", "make 0 0", "show 0 1 0 {0,0}", "slide 0 0 {0..5}", "version", "box 0 0 0 0 0 0", "version", "box 0 0 5 2 0 0",
            "version", "box 0 0 5 {0,1} 0 1", "version", "box 0 0 {0..5} 1 1 0", "version", "difference 0 1 0 = 1", "difference 0 2 0 = 2", "difference 1 2 0 = 1",
            "difference 2 3 0 = 1", "difference 0 3 0 = 2", "difference 0 4 0 = 6", "difference 3 4 0 = 6");
        new Script("43: another show or another step", "make 0 2", "make 0 0", "show 0 1 0 {0,0}", "slide 0 0 0", "box 0 0 0 2 0 1", "version", "box 0 0 0 2 1 1", "version",
            "box 0 0 0 2 0 2", "version", "box 0 0 0 2 0 1", "version", "difference 0 1 0 = 1", "difference 0 2 0 = 1", "difference 1 2 0 = 1", "difference 0 3 0 = 0");
        new Script("43: by their numbers", "make 0 2", "make 0 0", "show 0 1 0 0", "slide 0 0 {0..2}", "box 0 0 2 0 0 0", "version", "slide 0 0 0", "version", "drop 0 0 1",
            "version", "drop 0 0 0", "version", "difference 0 1 0 = 2", "difference 0 2 0 = 0", "difference 0 3 0 = 2", "difference 1 3 0 = 3");
        new Script("43: what boxes hold, not what they show", "make 0 2", "make 0 0", "show 0 1 0 0", "slide 0 0 0", "box 0 0 -1 0 0 0", "version", "box 0 0 0 0 0 0", "version",
            "flatText 0 0 0 = =<>", "difference 0 1 0 = 1", "set 0 1 0 number 5", "version", "difference 1 2 0 = 0", "difference 1 2 1 = 1");
    }

    private static void masters() {
        new Script("43: one more for the master", "make 0 2", "make 0 0", "show 0 1 0 0", "version", "box 0 0 -1 0 0 0", "version", "box 0 0 -1 {1,2} 0 3", "version",
            "slide 0 0 {0..5}", "version", "difference 0 1 0 = 1", "difference 0 2 0 = 1", "difference 1 2 0 = 1", "difference 2 3 0 = 6", "difference 0 3 0 = 7",
            "difference 3 0 0 = 7");
        new Script("43: all slides and the master", "make 0 2", "make 0 0", "show 0 1 0 0", "slide 0 0 {0..5}", "version", "box 0 0 {-1,0,1,2,3,4,5} 2 0 0", "version",
            "difference 0 1 0 = 7", "box 0 0 {-1,0,1,2,3,4,5} 2 -1 0", "version", "difference 0 2 0 = 0");
    }

    private static void partsInSome() {
        for (int kind = 0; kind < 3; kind++) {
            String more = kind == 0 ? "set 0 0 0 number 1" : kind == 1 ? "write 0 0 a" : "slide 0 0 0";
            new Script("43: a part that is in one alone, or in none", "version = 0", "version = 1", "make 0 " + kind, more, "version = 2", "version = 3", "difference 0 1 0 = 0",
                "difference 0 2 0 = 0", "difference 2 1 0 = 0", "difference 2 3 0 = 0", "make 0 " + kind, "difference 2 3 1 = 0", more.replace("1", "2").replace("a", "b"),
                "version = 4", "difference 3 4 1 = 0", "difference 3 4 0 = " + (kind == 1 ? 2 : 1), "difference 0 4 0 = 0");
        }
        new Script("43: rights, sizes, models, comments, shows and lines are not kept", "make 0 0", "make 0 1", "make 0 1", "make 0 2", "write 0 1 a", "version", "give 0 {0..3} 1 3",
            "setSize 0 1 0 9", "model 0 1 2", "comment 0 1 0 0 5", "show 0 1 0 0", "freeze 0 0", "line 0 0", "version", "difference 0 1 {0..3} = 0");
    }
}
