/**
 * What several promises say together: rights and shows, FIELDs and frozen shows, undo behind taking in, comments and
 * changes over all texts, what others have not sent, and versions around macros.
 */
public final class TogetherTest {
    private static final String FORTY = "abcdefghijklmnopqrstuvwxyzabcdefghijklmn";

    public static void main(String[] args) {
        rightsToWhatIsShown();
        rightsToWhatIsHidden();
        rightsTakenBack();
        fieldsOfFrozenShows();
        frozenShowsWithFields();
        frozenShowsInDecks();
        undoBehindTakingIn();
        undoOfOthersBehindTakingIn();
        commentsBehindTakingIn();
        commentsAndChanges();
        commentsAndRefusedChanges();
        ownEditsOfOthers();
        suggestionsAndShows();
        versionsAroundMacros();
        versionsAroundRefusedMacros();
        macrosAndSheets();
        macrosAndShows();
        versionsAndUndo();
        versionsAndChanges();
        decksAndTheirShows();
        modelsAndTakingIn();
        limitsOfOneDoNotBindAnother();
        Check.end("TogetherTest");
    }

    private static Script on(String about, String... rows) {
        return new Script(about, rows);
    }

    private static void rightsToWhatIsShown() {
        on("35, 38: the right to a DECK is not the right to what it shows", "make 0 0", "make 0 1", "make 0 2", "give 0 2 1 1", "write 0 1 ab",
            "show 0 1 0 1 = 0", "show 0 0 0 1 = 1", "slide 0 2 0", "box 0 2 0 0 0 0", "box 0 2 0 1 1 0", "flatText 1 2 0 = =##", "give 0 1 1 1",
            "flatText 1 2 0 = =<ab>#", "give 0 0 1 2", "flatText 1 2 0 = =<ab><,>", "give 0 1 1 0", "flatText 1 2 0 = =#<,>",
            "flatText 0 2 0 = =<ab><,>", "give 0 2 1 0", "flat 1 2 0 ! right", "drawn 1 1 = <,>");
        on("32, 34: a box may hold what its person may not see", "make 0 2", "make 1 1", "write 1 1 ab", "show 1 1 0 1 = 0", "show 0 1 0 1 ! right",
            "slide 0 0 0", "box 0 0 0 0 0 0 = -1", "flatText 0 0 0 = =#", "freeze 0 0 ! right", "give 1 1 0 1", "flatText 0 0 0 = =<ab>",
            "freeze 0 0 = true", "give 1 1 0 0", "flatText 0 0 0 = =#", "freeze 0 0 ! right", "box 0 0 0 0 -1 0 = 0", "flatText 0 0 0 = =");
        on("11, 35: so may a FIELD", "make 0 1", "make 1 1", "write 1 1 ab", "show 1 1 0 1 = 0", "write 0 0 x0y", "flatText 0 0 0 = x#y",
            "give 0 0 1 1", "flatText 1 0 0 = x<ab>y", "show 0 0 0 2 = 1", "drawn 0 1 = <x#y>", "drawn 1 1 = <x<ab>y>", "drawn 2 1 = #", "redrawn = 2",
            "give 1 1 0 1", "redrawn = 0", "drawn 0 1 = <x<ab>y>");
        on("40: what a person may not see is not taken in, nor when the right comes", "make 0 1", "make 1 1", "write 1 1 ab", "show 1 1 0 1 = 0",
            "write 0 0 x0y", "takeIn 0 0 0 = 2", "row 0 = xy", "give 1 1 0 1", "row 0 = xy", "takeIn 0 1 0 = 2", "row 0 = ab");
    }

    private static void rightsToWhatIsHidden() {
        on("3, 38: the owner's right counts in formulas, not that of the one who asks", "make 1 0", "make 0 0", "set 1 0 0 number 3",
            "formula 0 1 0 4 0 0 0 0", "give 0 1 {1,2} 1", "flatText 1 1 0 = !,,;,,;,,;,,", "value 1 1 0 = 3", "give 1 0 0 1",
            "flatText {0,1,2} 1 0 = 1,,;2,,;3,,;,,", "rounds = 2", "value 2 1 0 = 1", "value 2 0 0 ! right", "give 1 0 0 0",
            "flatText {0,1,2} 1 0 = !,,;,,;,,;,,", "what 1 1 3 = 0");
        on("3, 35, 37: a show of a hidden cell", "make 1 0", "make 0 0", "set 1 0 0 number 3", "formula 0 1 0 0 0 0 0 1", "show 0 1 0 1 = 0",
            "give 0 1 1 1", "redrawn = 1", "drawn {0,1} 0 = <!,>", "freeze 0 0 = true", "give 1 0 0 3", "drawn {0,1} 0 = <!,>", "redrawn = 0",
            "freeze 1 0 = false", "drawn {0,1} 0 = <3,>", "redrawn = 1");
        on("3, 46: a macro does not mind what is hidden", "make 1 0", "make 0 0", "make 0 1", "set 1 0 0 number 3", "formula 0 1 0 0 0 0 0 0",
            "line 0 7", "run 0 1 2 = 1", "value 0 1 0 = 7", "value 0 0 0 ! right", "run 0 0 2 ! right");
    }

    private static void rightsTakenBack() {
        on("3, 14: own edits stay when the right to send them goes", "make 0 1", "give 0 0 1 3", "put 1 0 0 5 = 1", "give 0 0 1 2 = 3",
            "send 1 0 ! right", "put 1 0 0 6 ! right", "out 1 0 0 ! right", "undo 1 0 ! right", "viewed 1 0 = f", "put 0 0 0 1", "send 0 0 = 1",
            "see 1 0 = 0", "viewed 1 0 = bf", "give 0 0 1 0 = 2", "view 1 0 ! right", "see 1 0 ! right", "viewAt 1 0 0 ! right", "give 0 0 1 3 = 0",
            "viewed 1 0 = bf", "send 1 0 = 2", "row 0 = bf");
        on("3, 41: a change passes by TEXTs without EDIT, and sends nothing there", "make 0 1", "make 0 1", "give 0 {0,1} 1 3", "write 0 {0,1} ab",
            "put 1 {0,1} 0 25", "give 0 1 1 2", "change 1 0 1 2 = 1", "row 0 = cbz", "log 0 = 5", "row 1 = ab", "log 1 = 2", "viewed 1 1 = z");
        on("3, 28, 29: what its maker may do without rights", "make 0 1", "give 0 0 {1,2} 3", "write 0 0 abc", "comment 1 0 1 1 25 = 0",
            "comment 1 0 2 2 25 = 1", "give 0 0 1 0", "take 1 0 ! right", "close 1 0 = true", "about 0 = -1", "about 1 = 201", "take 2 1 = 5",
            "row 0 = abz", "close 1 1 = false");
        on("3, 25: the right to a model is asked when it is given", "make 0 1", "make 1 1", "give 1 1 0 1", "setSize 1 1 0 44 = 30",
            "model 0 0 1 = -1", "size 0 0 = 44", "give 1 1 0 0", "size 0 0 = 44", "setSize 1 1 0 45 = 44", "size 0 0 = 45", "model 0 0 1 ! right",
            "model 0 0 -1 = 1", "size 0 0 = 30");
        on("3, 33: a show stays when its maker's right goes", "make 0 1", "give 0 0 1 1", "write 0 0 abc", "show 1 0 1 2 = 0", "give 0 0 1 0",
            "drawn 1 0 = #", "drawn 0 0 = <bc>", "out 0 0 0", "send 0 0", "drawn 0 0 = <bc>", "show 1 0 0 0 ! right");
        on("3, 46: rights between two runs", "make 0 0", "make 0 1", "give 0 {0,1} 1 3", "line 1 2", "line 3 1", "run 1 0 1 = 2", "give 0 1 1 2",
            "run 1 0 1 ! right", "give 0 1 1 3", "give 0 0 1 2", "run 1 0 1 ! right", "give 0 0 1 3", "run 1 0 1 = 2", "value 1 0 0 = 4",
            "row 1 = bb");
    }

    private static void fieldsOfFrozenShows() {
        on("34, 35: a FIELD of a frozen show", "make 0 0", "make 0 1", "set 0 0 0 number 1", "show 0 0 0 0 = 0", "write 0 1 a0b", "show 0 1 0 2 = 1",
            "freeze 0 0 = true", "set 0 0 0 number 2", "drawn 0 1 = <a<1>b>", "flatText 0 1 0 = a<1>b", "freeze 0 1 = true", "freeze 0 0 = false",
            "drawn 0 0 = <2>", "drawn 0 1 = <a<1>b>", "flatText 0 1 0 = a<2>b", "freeze 0 1 = false", "drawn 0 1 = <a<2>b>", "redrawn = 2");
        on("34, 35: a frozen show in a FIELD, to those without the right to its part", "make 0 0", "make 0 1", "give 0 1 1 1", "set 0 0 0 number 7",
            "show 0 0 0 0 = 0", "write 0 1 a0", "show 0 1 0 1 = 1", "freeze 0 0 = true", "drawn 1 1 = <a#>", "freeze 1 1 = true", "drawn 1 1 = <a<7>>",
            "drawn {2,3} 1 = #", "drawn 1 0 = #", "freeze 1 1 = false", "drawn 1 1 = <a#>", "flatText 1 1 0 = a#", "freeze 1 0 ! right",
            "give 0 0 1 1", "freeze 1 0 = false", "drawn 1 1 = <a<7>>");
        on("34, 37: redrawn by a FIELD that is frozen, and live again", "make 0 0", "make 0 1", "show 0 0 0 0 = 0", "write 0 1 0", "show 0 1 0 0 = 1",
            "redrawn = 2", "freeze 0 0", "set 0 0 0 number 5", "redrawn = 0", "freeze 0 0", "redrawn = 2", "freeze 0 1", "set 0 0 0 number 6",
            "redrawn = 1", "freeze 0 1", "redrawn = 1");
        on("34, 40, 41: what was frozen ahead of a change is taken in", "make 0 1", "make 0 1", "write 0 0 ab", "show 0 0 0 1 = 0",
            "freeze 0 0 = true", "change 0 0 1 25 = 1", "row 0 = zb", "write 0 1 0", "takeIn 0 1 1 = 2", "row 1 = ab", "write 0 1 0",
            "freeze 0 0 = false", "takeIn 0 1 1 = 3", "row 1 = abb");
    }

    private static void frozenShowsWithFields() {
        on("34, 35: FIELDs that are frozen stay drawn within another FIELD", "make 0 1", "make 0 1", "make 0 0", "set 0 2 0 number 7",
            "show 0 2 0 0 = 0", "write 0 0 a0", "show 0 0 0 1 = 1", "write 0 1 b1", "show 0 1 0 1 = 2", "drawn 0 2 = <b<a@>>", "freeze 0 1 = true",
            "drawn 0 2 = <b<a<7>>>", "flatText 0 1 0 = b<a<7>>", "set 0 2 0 number 8", "drawn 0 2 = <b<a<7>>>", "freeze 0 1 = false",
            "drawn 0 2 = <b<a@>>", "drawn 0 1 = <a<8>>");
        on("34, 35: a show of itself, frozen", "make 0 1", "write 0 0 ab", "show 0 0 0 1 = 0", "put 0 0 1 200", "send 0 0 = 3",
            "drawn 0 0 = <a<a@b>b>", "freeze 0 0 = true", "flatText 0 0 0 = a<a<a@b>b>b", "show 0 0 0 2 = 1", "drawn 0 1 = <a<a<a@b>b>b>",
            "freeze 0 0 = false", "flatText 0 0 0 = a<a@b>b", "drawn 0 1 = <a<a@b>b>");
        on("34, 35: frozen with more than 80 characters in it", "make 0 1", "write 0 0 " + FORTY.substring(0, 38), "show 0 0 0 37 = 0",
            "put 0 0 37 200", "send 0 0", "shown 0 0 = 80", "freeze 0 0 = true", "drawn 0 0 = <" + FORTY.substring(0, 37) + "<" + FORTY.substring(0,
            37) + "@l>l", "put 0 0 39 25", "send 0 0", "drawn 0 0 = <" + FORTY.substring(0, 37) + "<" + FORTY.substring(0, 37) + "@l>l",
            "flat 0 0 0 = 119", "flatAt 0 0 0 36 = k", "flatAt 0 0 0 37 = <", "flatAt 0 0 0 116 = l", "flatAt 0 0 0 117 = l", "flatAt 0 0 0 118 = z",
            "flatAt 0 0 0 119 ! index");
        on("15, 34, 35: undo behind a frozen show", "make 0 1", "write 0 0 ab", "show 0 0 0 1 = 0", "put 0 0 1 25", "send 0 0", "drawn 0 0 = <azb>",
            "freeze 0 0 = true", "undo 0 0 = true", "drawn 0 0 = <azb>", "row 0 = ab", "freeze 0 0 = false", "drawn 0 0 = <ab>");
    }

    private static void frozenShowsInDecks() {
        on("32, 34, 38: a frozen show in the master, with its step", "make 0 1", "make 0 2", "write 0 0 ab", "show 0 0 0 1 = 0", "slide 0 1 0",
            "box 0 1 -1 1 0 2", "freeze 0 0 = true", "out 0 0 0", "send 0 0", "flatText 0 1 {0,1} = =", "flatText 0 1 {2,3} = =<ab>",
            "box 0 1 0 1 0 0 = -1", "flatText 0 1 {0..3} = =<ab>", "box 0 1 0 1 -1 3 = 0", "flatText 0 1 1 = =", "flatText 0 1 2 = =<ab>",
            "freeze 0 0 = false", "flatText 0 1 2 = =<b>");
        on("32, 34, 40: a DECK of frozen shows is taken in into what they show", "make 0 1", "make 0 2", "write 0 0 ab", "show 0 0 0 1 = 0",
            "slide 0 1 {0,1}", "box 0 1 -1 0 0 3", "freeze 0 0 = true", "takeIn 0 1 0 = 6", "row 0 = BabBab", "drawn 0 0 = <ab>", "freeze 0 0 = false",
            "drawn 0 0 = <>", "flatText 0 1 3 = =<>=<>", "takeIn 0 1 0 = 2", "row 0 = BB");
    }

    private static void undoBehindTakingIn() {
        on("15, 40: FIELDs come back, and what was taken out since is void", "make 0 1", "make 0 1", "write 0 0 ab", "show 0 0 0 1 = 0",
            "write 0 1 x0", "flatText 0 1 0 = x<ab>", "takeIn 0 0 1 = 2", "log 1 = 6", "undo 0 1 = true", "row 1 = a", "undo 0 1 = true", "row 1 = ",
            "undo 0 1 = true", "row 1 = x", "undo 0 1 = true", "row 1 = x0", "flatText 0 1 0 = x<ab>", "rowByLog 1 = x0", "undo 0 1 = false",
            "row 1 = x0", "log 1 = 11", "undo 0 1 = false", "log 1 = 12", "undo 0 1 ! state");
        on("15, 40: what was sent ahead of it is undone behind it", "make 0 1", "make 0 1", "write 0 0 a", "put 0 1 0 25", "takeIn 0 0 1 = 1",
            "log 1 = 3", "undo 0 1 = true", "row 1 = ", "undo 0 1 = true", "row 1 = z", "undo 0 1 = false", "undo 0 1 ! state");
        on("15, 40: own edits behind it are undone first", "make 0 1", "make 0 1", "write 0 0 ab", "takeIn 0 0 1 = 2", "put 0 1 1 25",
            "undo 0 1 = true", "row 1 = ab", "log 1 = 4", "undo 0 1 = true", "row 1 = a");
        on("15, 40: into itself, then undone", "make 0 1", "write 0 0 aHb", "flatText 0 0 0 = a.100 b", "takeIn 0 0 0 = 3", "row 0 = aBb",
            "undo 0 0 = true", "undo 0 0 = true", "undo 0 0 = true", "row 0 = ", "undo 0 0 = true", "row 0 = a", "undo 0 0 = true", "row 0 = aH",
            "undo 0 0 = true", "row 0 = aHb", "block 0 2 = 100", "undo 0 0 = false");
        on("15, 40, 46: a letter that is TYPEd behind it", "make 0 0", "make 0 1", "line 3 25", "takeIn 0 0 1 = 3", "run 0 0 1 = 1", "row 1 = BBBz",
            "undo 0 1 = true", "row 1 = BBB", "undo 0 1 = true", "row 1 = BB");
    }

    private static void undoOfOthersBehindTakingIn() {
        on("15, 40: what another one took out is void", "make 0 1", "make 0 1", "give 0 {0,1} 1 3", "write 0 0 ab", "write 1 1 yz", "takeIn 0 0 1 = 2",
            "undo 1 1 = false", "undo 1 1 = false", "undo 1 1 ! state", "row 1 = ab", "log 1 = 8", "see 0 1 = 1", "see 0 1 = 0", "viewed 0 1 = ab");
        on("15, 40: behind forty of another one", "make 0 1", "make 0 1", "give 0 {0,1} 1 3", "write 0 0 " + FORTY, "write 0 1 x", "out 0 1 0",
            "send 0 1 = 2", "takeIn 1 0 1 = 40", "log 1 = 42", "undo 0 1 = false", "row 1 = " + FORTY, "log 1 = 43", "undo 0 1 = false",
            "undo 0 1 ! state");
        on("15, 40: between those of another one", "make 0 1", "make 0 1", "give 0 {0,1} 1 3", "write 0 0 ab", "takeIn 0 0 1 = 2", "write 1 1 c",
            "undo 0 1 = true", "row 1 = ac", "undo 1 1 = true", "row 1 = a", "undo 0 1 = true", "row 1 = ", "log 1 = 6", "rowByLog 1 = ");
    }

    private static void commentsBehindTakingIn() {
        on("27, 40, 15: a comment that was closed by it stays closed", "make 0 1", "make 0 1", "give 0 {0,1} 1 3", "write 0 0 ab", "write 1 1 yz",
            "comment 1 1 0 1 4 = 0", "show 1 1 0 1 = 0", "takeIn 0 0 1 = 2", "about 0 = -1", "drawn 0 0 = <>", "undo 0 1 = true", "undo 0 1 = true",
            "undo 0 1 = true", "undo 0 1 = true", "row 1 = yz", "about 0 = -1", "drawn 0 0 = <>", "close 1 0 = false", "take 0 0 ! state");
        on("27, 40, 15: a comment about what was taken in", "make 0 1", "make 0 1", "write 0 0 ab", "takeIn 0 0 1 = 2", "comment 0 1 0 1 4 = 0",
            "about 0 = 2", "undo 0 1 = true", "about 0 = 1", "undo 0 1 = true", "about 0 = -1");
        on("26, 40: comments do not come with what is taken in", "make 0 1", "make 0 1", "write 0 0 ab", "comment 0 0 0 1 4 = 0", "takeIn 0 0 1 = 2",
            "about 0 = 2", "take 0 0 = 5", "row 0 = e", "row 1 = ab");
        on("29, 40: a suggestion that was taken ahead is taken in", "make 0 1", "make 0 1", "write 0 0 abc", "comment 0 0 0 1 25 = 0", "take 0 0 = 6",
            "takeIn 0 0 1 = 2", "row 1 = zc");
    }

    private static void commentsAndChanges() {
        on("27, 41: what comments and shows are about behind a change", "make 0 1", "make 0 1", "write 0 {0,1} abab", "comment 0 0 0 0 25 = 0",
            "comment 0 0 0 1 25 = 1", "comment 0 0 1 2 25 = 2", "comment 0 0 2 3 25 = 3", "comment 0 0 0 3 16 = 4", "comment 0 0 1 1 25 = 5",
            "comment 0 1 2 2 25 = 6", "comment 0 1 3 3 25 = 7", "show 0 0 0 3 = 0", "show 0 1 2 2 = 1", "change 0 0 1 25 = 4", "row {0,1} = zbzb",
            "about 0 = -1", "about 1 = 101", "about 2 = 101", "about 3 = 301", "about 4 = 103", "about 5 = 101", "about 6 = -1", "about 7 = 301",
            "drawn 0 0 = <bzb>", "drawn 0 1 = <>", "undo 0 0 = true", "row 0 = bzb", "about 4 = 3", "about 3 = 201", "undo 0 0 = true", "row 0 = abzb",
            "about 4 = 103", "about 0 = -1", "take 0 4 = 14", "row 0 = aq", "about {1,2,3,5} = -1", "row 1 = zbzb", "about 7 = 301");
        on("27, 41: a letter that is changed into itself", "make 0 1", "write 0 0 ab", "comment 0 0 0 0 -1 = 0", "comment 0 0 0 1 -1 = 1",
            "change 0 0 1 0 = 1", "row 0 = ab", "about 0 = -1", "about 1 = 101");
        on("27, 41: places that are sent by it", "make 0 1", "write 0 0 ab", "comment 0 0 0 1 -1 = 0", "put 0 0 1 0", "change 0 0 0 25 = 1",
            "row 0 = zab", "about 0 = 102");
        on("28, 41: a closed comment stays closed", "make 0 1", "write 0 0 ab", "comment 0 0 0 1 3 = 0", "close 0 0 = true", "change 0 0 1 25 = 1",
            "about 0 = -1", "take 0 0 ! state");
    }

    private static void commentsAndRefusedChanges() {
        on("27, 41: a change that is refused in the last TEXT leaves the comments of the first", "make 0 1", "make 0 1", "give 0 {0,1} 1 3",
            "write 0 {0,1} abab", "comment 0 0 0 0 25 = 0", "comment 0 0 1 3 25 = 1", "show 0 0 0 0 = 0", "put 0 0 0 3", "put 1 0 0 4",
            "fill 0 1 1 297", "change 0 0 1 25 ! state", "about 0 = 1", "about 1 = 103", "drawn 0 0 = <a>", "log 0 = 4", "viewed 0 0 = dabab",
            "redrawn = 1", "give 0 1 1 1", "change 1 0 1 25 = 2", "about 0 = -1", "about 1 = 103", "row 0 = zbzbe", "row 1 = abab");
        on("41: a log that has just room for it", "make 0 1", "make 0 1", "give 0 {0,1} 1 3", "write 0 {0,1} abab", "fill 0 1 1 296",
            "change 0 0 1 25 = 4", "row {0,1} = zbzb", "log 1 = 300", "change 0 25 1 24 ! state", "row {0,1} = zbzb", "log 0 = 8");
    }

    private static void ownEditsOfOthers() {
        on("13, 41: own edits are turned by a change, edit by edit", "make 0 1", "give 0 0 1 3", "write 0 0 abab", "send 1 0", "out 1 0 0",
            "put 1 0 0 24", "viewed 1 0 = ybab", "change 0 0 1 25 = 2", "viewed 1 0 = ybab", "see 1 0 = 3", "viewed 1 0 = ybb", "see 1 0 = 2",
            "viewed 1 0 = ybzb", "see 1 0 = 1", "viewed 1 0 = ybzb", "see 1 0 = 0", "viewed 1 0 = zybzb", "send 1 0 = 10", "row 0 = zybzb",
            "undo 1 0 = true", "row 0 = zbzb", "undo 1 0 ! state");
        on("14, 40: own edits are turned by a taking in of a lower person", "make 0 1", "make 0 1", "give 0 {0,1} 1 3", "write 0 0 ab",
            "write 0 1 xyz", "send 1 1", "put 1 1 2 5", "out 1 1 0", "viewed 1 1 = yfz", "takeIn 0 0 1 = 2", "send 1 1 = 10", "row 1 = abf",
            "undo 1 1 = true", "row 1 = ab", "undo 1 1 ! state");
        on("14, 40: and of a higher one", "make 0 1", "make 0 1", "give 0 {0,1} 1 3", "write 0 0 ab", "write 0 1 xyz", "put 0 1 2 5",
            "takeIn 1 0 1 = 2", "send 0 1 = 9", "row 1 = fab");
        on("14, 29: own edits are turned by a suggestion that is taken", "make 0 1", "give 0 0 1 3", "write 0 0 abcd", "send 1 0",
            "comment 0 0 1 2 25", "put 1 0 2 5", "out 1 0 1", "viewed 1 0 = afcd", "take 0 0 = 7", "row 0 = azd", "send 1 0 = 9", "row 0 = azfd");
        on("14, 46: own edits are turned by a letter that is TYPEd", "make 0 0", "make 0 1", "give 0 1 1 3", "write 0 1 ab", "send 1 1", "put 1 1 2 5",
            "line 3 25", "run 0 0 1 = 1", "send 1 1 = 4", "row 1 = abzf");
        on("13, 15: own edits are turned by an undo", "make 0 1", "give 0 0 1 3", "write 0 0 ab", "send 1 0", "out 1 0 1", "put 1 0 1 25",
            "undo 0 0 = true", "see 1 0 = 0", "viewed 1 0 = az", "send 1 0 = 5", "row 0 = az", "undo 0 0 = true", "row 0 = z", "undo 1 0 = true",
            "row 0 = ");
    }

    private static void suggestionsAndShows() {
        on("15, 29, 35: a show of what a suggestion replaced", "make 0 1", "write 0 0 abcd", "show 0 0 1 2 = 0", "show 0 0 0 3 = 1",
            "comment 0 0 1 2 25", "redrawn = 2", "take 0 0 = 7", "drawn 0 0 = <>", "drawn 0 1 = <azd>", "redrawn = 2", "undo 0 0 = true", "row 0 = ad",
            "undo 0 0 = true", "row 0 = abd", "undo 0 0 = true", "row 0 = abcd", "drawn 0 0 = <>", "drawn 0 1 = <abcd>", "redrawn = 1");
        on("29, 35: a suggestion in place of a FIELD", "make 0 1", "write 0 0 ab", "show 0 0 0 0 = 0", "put 0 0 1 200", "send 0 0", "show 0 0 0 2 = 1",
            "drawn 0 1 = <a<a>b>", "comment 0 0 1 1 25", "take 0 0 = 5", "drawn 0 1 = <azb>", "undo 0 0 = true", "undo 0 0 = true", "row 0 = a0b",
            "drawn 0 1 = <a<a>b>");
    }

    private static void versionsAroundMacros() {
        on("43, 46: what a run changed", "make 0 0", "make 0 1", "version = 0", "line 0 5 = 1", "line 3 2 = 2", "line 2 4 = 3", "line 1 3 = 4",
            "version = 1", "run 0 0 1 = 4", "version = 2", "difference 0 1 {0,1} = 0", "difference 1 2 0 = 2", "difference 1 2 1 = 1",
            "difference 2 0 0 = 2", "run 0 0 1 = 4", "version = 3", "difference 2 3 0 = 1", "difference 2 3 1 = 2", "wipe = 4", "version = 4",
            "difference 3 4 {0,1} = 0", "run 0 0 1 = 0", "version ! state", "difference 0 4 0 = 2", "difference 0 4 1 = 1");
        on("43, 46: a run that ends in a step", "make 0 0", "make 0 1", "formula 0 0 1 0 0 2 0 2", "line 0 5", "line 3 2", "line 2 1", "line 1 3",
            "line 0 6", "version = 0", "run 0 0 1 = 3", "version = 1", "difference 0 1 0 = 1", "difference 0 1 1 = 1", "row 1 = c", "value 0 0 0 = 5",
            "value 0 0 1 = 0");
        on("43, 46, 15: a letter that is TYPEd, then undone", "make 0 0", "make 0 1", "write 0 1 ab", "line 3 2", "version = 0", "run 0 0 1 = 1",
            "version = 1", "undo 0 1 = true", "version = 2", "difference 0 1 1 = 2", "difference 0 2 1 = 0", "difference 1 2 1 = 2");
    }

    private static void versionsAroundRefusedMacros() {
        on("43, 46: a run that is refused changed nothing", "make 0 0", "make 0 1", "give 0 {0,1} 1 3", "write 0 1 ab", "fill 0 1 1 299",
            "comment 0 1 1 1 4", "line 0 5", "line 3 2", "line 0 6", "line 3 2", "version = 0", "run 0 0 1 ! state", "version = 1",
            "difference 0 1 {0,1} = 0", "about 0 = 101", "wipe = 4", "line 0 5", "line 3 2", "run 0 0 1 = 2", "version = 2", "difference 1 2 0 = 1",
            "difference 1 2 1 = 2", "log 1 = 300", "run 0 0 1 ! state", "version = 3", "difference 2 3 {0,1} = 0");
    }

    private static void macrosAndSheets() {
        on("8, 46: a number where a LIST spills blocks it", "make 0 0", "make 0 1", "set 0 0 1 number 3", "formula 0 0 0 4 0 1 0 0",
            "flatText 0 0 0 = 1,3,;2,,;3,,;,,", "version = 0", "line 2 3", "line 0 9", "run 0 0 1 = 2", "version = 1", "difference 0 1 0 = 1",
            "flatText 0 0 0 = !,3,;9,,;,,;,,", "value 0 0 0 = 2", "what 0 0 6 = 0", "set 0 0 3 blank 0", "value 0 0 6 = 3");
        on("8, 10, 46: a run that feeds formulas", "make 0 0", "make 0 1", "formula 0 0 11 3 0 0 0 2", "rounds = 1", "line 4 2", "line 1 5",
            "line 2 1", "line 5 2", "run 0 0 1 = 10", "value 0 0 11 = 15", "valueAnew 0 0 11 = 15", "rounds = 2", "flatText 0 0 0 = 5,5,5;,,;,,;,,15");
        on("8, 46: one who may not write a formula's SHEET", "make 0 0", "make 1 0", "make 1 1", "give 1 1 0 1", "formula 0 0 0 0 1 0 1 0", "line 0 7",
            "run 1 1 2 = 1", "value 0 0 0 = 14", "run 0 1 2 ! right", "run 1 0 2 ! right");
    }

    private static void macrosAndShows() {
        on("37, 46: a run redraws", "make 0 0", "make 0 1", "write 0 1 ab", "show 0 0 0 0 = 0", "show 0 1 0 1 = 1", "show 0 0 1 1 = 2", "redrawn = 3",
            "line 0 4", "line 3 0", "run 0 0 1 = 2", "redrawn = 1", "drawn 0 0 = <4>", "drawn 0 1 = <ab>", "drawn 0 2 = <>", "run 0 0 1 = 2",
            "redrawn = 0", "row 1 = abaa");
        on("34, 46: a frozen show behind a run", "make 0 0", "make 0 1", "show 0 0 0 0 = 0", "freeze 0 0 = true", "line 1 4", "run 0 0 1 = 1",
            "drawn 0 0 = <>", "freeze 0 0 = false", "drawn 0 0 = <4>");
    }

    private static void versionsAndUndo() {
        on("15, 43: undone, it is as it was", "make 0 1", "write 0 0 aHb", "version = 0", "put 0 0 3 2", "send 0 0", "version = 1", "undo 0 0 = true",
            "version = 2", "difference 0 1 0 = 2", "difference 0 2 0 = 0", "takeIn 0 0 0 = 3", "version = 3", "row 0 = aBb", "difference 0 3 0 = 2",
            "undo 0 0 = true", "undo 0 0 = true", "undo 0 0 = true", "undo 0 0 = true", "undo 0 0 = true", "undo 0 0 = true", "version = 4",
            "difference 0 4 0 = 0", "difference 3 4 0 = 2");
        on("14, 43: what is not sent is not kept", "make 0 1", "put 0 0 0 1", "version = 0", "send 0 0", "version = 1", "difference 0 1 0 = 1");
    }

    private static void versionsAndChanges() {
        on("41, 43: each TEXT by itself", "make 0 1", "make 1 1", "make 0 1", "write 0 0 aHab", "write 1 1 aHab", "write 0 2 ba", "version = 0",
            "change 0 0 1 25 = 1", "version = 1", "difference 0 1 0 = 2", "difference 0 1 {1,2} = 0", "change 1 0 -1 25 = 1", "version = 2",
            "difference 1 2 {0,2} = 0", "difference 1 2 1 = 2", "row {0,1} = aHzb");
        on("29, 43: a suggestion that is taken", "make 0 1", "write 0 0 aHbBc", "comment 0 0 1 3 4", "version = 0", "take 0 0 = 9", "version = 1",
            "row 0 = aec", "difference 0 1 0 = 4");
    }

    private static void decksAndTheirShows() {
        on("30, 31, 38: slides keep what they hold when others come and go", "make 0 2", "make 0 0", "show 0 1 0 0 = 0", "show 0 1 0 1 = 1",
            "slide 0 0 {0,1}", "box 0 0 0 0 0 1", "box 0 0 1 0 1 2", "flatText 0 0 {2,3} = =<>=<,>", "slide 0 0 1 = 3", "flatText 0 0 2 = =<>==<,>",
            "box 0 0 -1 2 0 0", "flatText 0 0 0 = =<>=<>=<>", "flatText 0 0 1 = =<><>=<>=<>", "drop 0 0 0 = 2", "flatText 0 0 2 = =<>=<,><>",
            "drop 0 0 1 = 1", "slide 0 0 1 = 2", "flatText 0 0 3 = =<>=<>");
        on("32, 43: a slide that was dropped and inserted anew", "make 0 2", "make 0 0", "show 0 1 0 0 = 0", "slide 0 0 {0,1}", "box 0 0 1 0 0 1",
            "version = 0", "drop 0 0 1 = 1", "version = 1", "slide 0 0 1 = 2", "version = 2", "box 0 0 1 0 0 1 = -1", "version = 3",
            "difference 0 {1,2} 0 = 1", "difference 1 2 0 = 1", "difference 0 3 0 = 0");
    }

    private static void modelsAndTakingIn() {
        on("25, 40: sizes and models do not come with what is taken in", "make 0 1", "make 0 1", "make 0 1", "write 0 0 Ha", "setSize 0 0 0 50 = 30",
            "model 0 0 2 = -1", "takeIn 0 0 1 = 2", "size 1 0 = 30", "model 0 1 0 = -1", "size 1 0 = 50", "block 1 0 = 0", "block 0 0 = 100");
        on("23, 43: sizes are not of the row", "make 0 1", "write 0 0 Ha", "version = 0", "setSize 0 0 0 50", "version = 1", "difference 0 1 0 = 0");
    }

    private static void limitsOfOneDoNotBindAnother() {
        on("11, 14: own edits are counted for each TEXT", "make 0 1", "make 0 1").each(1, 6, "put 0 0 0 %d = %d",
            "put 0 1 0 %d = %d").on("put 0 {0,1} 0 0 ! state", "send 0 0 = 6", "put 0 1 0 0 ! state", "put 0 0 0 0 = 1", "log 1 = 0");
        on("14, 40: one full log does not bind another", "make 0 1", "make 0 1", "give 0 {0,1} 1 3", "fill 0 1 0 300", "write 0 1 ab",
            "takeIn 0 1 0 ! state", "takeIn 0 0 1 = 0", "log 1 = 4", "change 0 0 -1 1 = 0", "put 0 0 0 1", "change 0 0 -1 1 ! state", "log 1 = 4",
            "see 1 1 = 3");
        on("42, 44: all that is full stays so behind a refused call", "make 0 0", "make 0 1").each(0, 4, "version = %d").each(1, 8,
            "line 3 1 = %d").on("version ! state", "line 0 0 ! state", "run 0 0 1 = 8", "row 1 = bbbbbbbb", "wipe = 8", "line 0 0 = 1",
            "version ! state");
    }
}
