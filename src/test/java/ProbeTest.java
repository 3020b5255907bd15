/** That a Probe of an object becomes another one by each call that changes something, so that what a refused call changes is met. */
public final class ProbeTest {
    private static final String[] BEGUN = {"make 0 0", "make 0 1", "make 0 2", "make 1 1", "give 0 {0..2} 1 2", "give 0 1 2 3", "set 0 0 0 number 3", "formula 0 0 1 4 0 0 0 0",
        "write 0 1 abHab", "send 2 1", "put 2 1 0 3", "put 0 1 0 4", "out 0 1 5", "show 0 0 0 4", "show 0 1 0 2", "comment 1 1 1 2 5", "slide 0 2 {0,1}", "box 0 2 0 1 0 2",
        "version", "line 0 5"};

    private static final String[] CHANGES = {"make 0 0", "make 1 1", "make 0 2", "give 0 0 3 1", "give 0 0 1 0", "set 0 0 0 number 4", "set 0 0 0 blank 0", "set 0 0 11 number 0",
        "formula 0 0 0 0 0 5 0 5", "formula 0 0 1 4 0 3 0 0", "put 0 1 0 4", "put 2 1 0 4", "put 0 1 5 100", "out 0 1 0", "out 2 1 0", "send 0 1", "send 2 1", "undo 0 1", "undo 2 1", "see 1 1",
        "setSize 0 1 0 9", "setSize 0 1 3 99", "model 0 3 1", "model 1 3 -1", "comment 1 1 1 2 5", "comment 1 1 1 2 -1", "close 1 0", "take 2 0", "slide 0 2 0", "drop 0 2 0", "drop 0 2 1",
        "box 0 2 0 1 0 3", "box 0 2 0 1 1 2", "box 0 2 0 0 -1 3", "box 0 2 -1 2 -1 1", "box 0 2 -1 0 1 0", "show 0 0 0 0", "freeze 0 0", "freeze 0 1", "redrawn", "takeIn 0 0 1", "takeIn 2 1 1",
        "change 0 0 1 9", "change 2 25 0 9", "version", "line 0 5", "line 3 0", "wipe", "run 0 0 1"};

    /** Pairs of calls that leave something else behind. */
    private static final String[][] OTHERS = {{"comment 1 1 1 2 5", "comment 1 1 1 2 6"}, {"comment 1 1 1 2 5", "comment 0 1 1 2 -1"}, {"line 0 5", "line 0 6"}, {"line 0 1", "line 1 1"},
        {"line 4 1", "line 5 1"}, {"put 0 1 0 4", "put 0 1 0 5"}, {"put 0 1 2 4", "put 0 1 3 4"}, {"out 0 1 0", "out 0 1 1"}, {"show 0 0 0 1", "show 0 0 0 2"}, {"show 0 1 1 1", "show 0 1 1 2"},
        {"box 0 2 0 0 -1 3", "box 0 2 0 0 -1 2"}, {"make 0 1", "make 1 1"}, {"make 0 0", "make 0 2"}, {"setSize 0 1 1 20", "setSize 0 1 1 21"}};

    public static void main(String[] args) {
        String begun = probed("length 1");
        Check.due("nothing changed", probed("length 1").equals(begun), true);
        for (String call : CHANGES) {
            if (!call.equals("model 1 3 -1")) {
                Check.due(call + " is met", probed(call).equals(begun), call.equals("model 0 3 1"));
            }
        }
        for (String[] pair : OTHERS) {
            Check.due(pair[0] + " is not " + pair[1], probed(pair[0]).equals(probed(pair[1])), false);
        }
        String modelled = probed("give 0 1 1 3", "give 1 3 0 3");
        Check.due("a model is met", probed("give 0 1 1 3", "give 1 3 0 3", "model 0 1 3").equals(modelled), false);
        Check.end("ProbeTest");
    }

    private static String probed(String... calls) {
        return Probe.all(() -> begun(calls));
    }

    private static Notebookspire begun(String... calls) {
        Notebookspire x = new Notebookspire();
        for (String row : BEGUN) {
            for (String call : Script.spread(row)) {
                Script.told(x, call);
            }
        }
        for (String call : calls) {
            Script.told(x, call);
        }
        return x;
    }
}
