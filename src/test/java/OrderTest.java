import java.lang.reflect.InvocationTargetException;
import java.lang.reflect.Method;
import java.lang.reflect.Modifier;
import java.util.ArrayList;
import java.util.List;
import java.util.Random;

/**
 * Each call with the edges of all its arguments at once, in an empty, a middling and a full object: the Reference tells
 * which exception comes first, or the answer; and behind all that was refused the object is as one that was not called.
 */
public final class OrderTest {
    private static final int MOST = 1500;
    private static final int MIN = Integer.MIN_VALUE, MAX = Integer.MAX_VALUE;
    private static final int[] PERSONS = {-1, 0, 1, 2, 3, 4, MIN, MAX};
    private static final int[] PARTS = {-1, 0, 1, 2, 3, 4, 5, 6, MIN, MAX};
    private static final int[] CELLS = {-1, 0, 4, 11, 12, MIN, MAX};
    private static final int[] PLACES = {-1, 0, 1, 2, 3, 4, 38, 39, 40, 41, MIN, MAX};
    private static final int[] LETTERS = {-2, -1, 0, 1, 25, 26, MIN, MAX};
    private static final int[] SHOWS = {-2, -1, 0, 1, 2, 9, 10, MIN, MAX};
    private static final int[] STEPS = {-1, 0, 3, 4, MIN, MAX};
    private static final int[] SIGNS = {-1, 0, 1, 3, 4, 10, 11, 79, 80, MIN, MAX};

    private static final String FORTY = "abcdefghijklmnopqrstuvwxyzabcdefghijklmn";
    private static final List<List<String>> STATES = List.of(List.of(), middling(), full());

    private static final List<Method> REAL = new ArrayList<>();
    private static int asked;
    private static int wrong;

    public static void main(String[] args) throws Exception {
        for (Method m : Notebookspire.class.getDeclaredMethods()) {
            if (Modifier.isPublic(m.getModifiers())) {
                REAL.add(m);
            }
        }
        REAL.sort((a, b) -> a.getName().compareTo(b.getName()));
        isFull(begun(2));
        for (int state = 0; state < STATES.size(); state++) {
            for (Method m : REAL) {
                all(state, m);
            }
        }
        System.out.println("OrderTest: " + asked + " combinations, " + wrong + " wrong");
        Check.end("OrderTest");
        System.exit(wrong > 0 ? 1 : 0);
    }

    private static void isFull(Notebookspire x) {
        Check.due("six parts", x.right(5, 0), 3);
        Check.due("a log of 300", x.log(5), 300);
        Check.due("six own edits", x.view(0, 5), 8);
        Check.due("a row of 40", x.length(1), 40);
        Check.due("ten shows", x.shown(0, 9), x.shown(0, 9));
        Check.due("twelve comments", x.about(11), 1003);
        Check.due("six slides", x.flat(0, 2, 0), 6);
        Check.due("five versions", x.difference(3, 4, 0), 12);
        Check.due("eight lines", x.wipe(), 8);
    }

    private static int[][] edges(String name) {
        switch (name) {
            case "make": return new int[][] {PERSONS, STEPS};
            case "give": return new int[][] {PERSONS, PARTS, PERSONS, STEPS};
            case "right": return new int[][] {PARTS, PERSONS};
            case "set": return new int[][] {PERSONS, PARTS, CELLS, {0, 1}, {-1001, -1000, 0, 1000, 1001, MIN, MAX}};
            case "formula": return new int[][] {{-1, 0, 1, 2, 3, 4}, {-1, 0, 1, 4, 6}, {-1, 0, 11, 12}, {-1, 0, 2, 3, 4, 5}, {-1, 0, 1, 4, 6}, {-1, 0, 11, 12},
                {-1, 0, 1, 4, 6}, {-1, 0, 11, 12}};
            case "what": case "value": case "valueAnew": return new int[][] {PERSONS, PARTS, CELLS};
            case "put": return new int[][] {PERSONS, PARTS, PLACES, {-1, 0, 25, 26, 99, 100, 103, 104, 199, 200, 201, 202, 209, 210, MIN, MAX}};
            case "out": case "viewAt": return new int[][] {PERSONS, PARTS, PLACES};
            case "see": case "send": case "undo": case "view": return new int[][] {PERSONS, PARTS};
            case "length": case "log": return new int[][] {PARTS};
            case "token": case "tokenByLog": case "block": return new int[][] {PARTS, PLACES};
            case "setSize": return new int[][] {PERSONS, PARTS, STEPS, {-1, 0, 1, 99, 100, MIN, MAX}};
            case "size": return new int[][] {PARTS, STEPS};
            case "model": return new int[][] {PERSONS, PARTS, {-2, -1, 0, 1, 2, 3, 4, 5, 6, MIN, MAX}};
            case "comment": return new int[][] {PERSONS, PARTS, PLACES, PLACES, LETTERS};
            case "about": return new int[][] {{-1, 0, 1, 2, 11, 12, MIN, MAX}};
            case "close": case "take": return new int[][] {PERSONS, {-1, 0, 1, 2, 11, 12, MIN, MAX}};
            case "slide": case "drop": return new int[][] {PERSONS, PARTS, {-1, 0, 1, 2, 3, 5, 6, 7, MIN, MAX}};
            case "box": return new int[][] {PERSONS, PARTS, {-2, -1, 0, 1, 2, 5, 6, MIN, MAX}, {-1, 0, 2, 3}, SHOWS, STEPS};
            case "show": return new int[][] {PERSONS, PARTS, {-1, 0, 2, 11, 12, 39, 40, MIN, MAX}, {-1, 0, 2, 11, 12, 39, 40, MIN, MAX}};
            case "freeze": case "shown": return new int[][] {PERSONS, SHOWS};
            case "shownAt": return new int[][] {PERSONS, SHOWS, SIGNS};
            case "flat": return new int[][] {PERSONS, PARTS, STEPS};
            case "flatAt": return new int[][] {PERSONS, PARTS, STEPS, SIGNS};
            case "takeIn": return new int[][] {PERSONS, PARTS, PARTS};
            case "change": return new int[][] {PERSONS, LETTERS, LETTERS, LETTERS};
            case "difference": return new int[][] {{-1, 0, 1, 2, 4, 5, MIN, MAX}, {-1, 0, 1, 2, 4, 5, MIN, MAX}, PARTS};
            case "line": return new int[][] {{-1, 0, 1, 2, 3, 4, 5, 6, MIN, MAX}, {-100, -99, -1, 0, 9, 10, 11, 12, 25, 26, 99, 100, MIN, MAX}};
            case "run": return new int[][] {PERSONS, PARTS, PARTS};
            default: return new int[0][];
        }
    }

    private static void all(int state, Method real) throws Exception {
        Method due = Reference.class.getDeclaredMethod(real.getName(), real.getParameterTypes());
        due.setAccessible(true);
        int[][] edges = edges(real.getName());
        long ways = 1;
        for (int[] e : edges) {
            ways *= e.length;
        }
        Random random = new Random(state);
        Notebookspire x = begun(state);
        Reference y = new Reference();
        begin(y, state);
        for (long i = 0; i < Math.min(ways, MOST); i++) {
            Object[] arguments = arguments(real, edges, ways <= MOST ? i : (random.nextLong() >>> 1) % ways);
            String want = answer(due, y, arguments);
            String got = answer(real, x, arguments);
            asked++;
            if (!want.equals(got)) {
                wrong++;
                System.out.println("state " + state + ": " + real.getName() + java.util.Arrays.toString(arguments) + " answered " + got + ", due is " + want);
            }
            if (!want.endsWith("Exception")) {
                x = begun(state);
                y = new Reference();
                begin(y, state);
            } else if (i % 97 == 0) {
                asked++;
                if (!Probe.all(x).equals(untouched(state))) {
                    wrong++;
                    System.out.println("state " + state + ": " + real.getName() + java.util.Arrays.toString(arguments) + " or one ahead of it changes something");
                }
                x = begun(state);
            }
        }
    }

    private static Object[] arguments(Method m, int[][] edges, long way) {
        Object[] arguments = new Object[edges.length];
        long left = way;
        for (int i = 0; i < edges.length; i++) {
            int value = edges[i][(int) (left % edges[i].length)];
            arguments[i] = m.getParameterTypes()[i] == boolean.class ? (Object) (value != 0) : (Object) value;
            left /= edges[i].length;
        }
        return arguments;
    }

    private static String answer(Method m, Object on, Object[] arguments) throws Exception {
        try {
            return String.valueOf(m.invoke(on, arguments));
        } catch (InvocationTargetException e) {
            return e.getCause().getClass().getName();
        }
    }

    private static final String[] UNTOUCHED = new String[STATES.size()];

    private static String untouched(int state) throws Exception {
        if (UNTOUCHED[state] == null) {
            UNTOUCHED[state] = Probe.all(begun(state));
        }
        return UNTOUCHED[state];
    }

    private static Notebookspire begun(int state) throws Exception {
        Notebookspire x = new Notebookspire();
        begin(x, state);
        return x;
    }

    /** Every row of a state is answered, by both alike. */
    private static void begin(Object on, int state) throws Exception {
        for (String call : STATES.get(state)) {
            String[] words = call.split(" ");
            for (Method m : on.getClass().getDeclaredMethods()) {
                if (m.getName().equals(words[0]) && m.getParameterCount() == words.length - 1) {
                    Object[] arguments = new Object[words.length - 1];
                    for (int i = 0; i < arguments.length; i++) {
                        boolean isFlag = m.getParameterTypes()[i] == boolean.class;
                        arguments[i] = isFlag ? (Object) words[i + 1].equals("blank") : (Object) Integer.parseInt(words[i + 1]);
                    }
                    m.setAccessible(true);
                    String got = answer(m, on, arguments);
                    if (got.endsWith("Exception")) {
                        throw new AssertionError(call + ": " + got);
                    }
                }
            }
        }
    }

    private static List<String> rows(String... rows) {
        List<String> all = new ArrayList<>();
        for (String row : rows) {
            all.addAll(Script.spread(row));
        }
        return all;
    }

    /** Puts tokens in behind a row of so many, and sends them. */
    private static List<String> written(int person, int part, int from, String tokens) {
        List<String> all = rows("send " + person + " " + part);
        for (int i = 0; i < tokens.length(); i++) {
            all.add("put " + person + " " + part + " " + (from + i) + " " + Check.token(tokens.charAt(i)));
            if (i % 6 == 5 || i == tokens.length() - 1) {
                all.add("send " + person + " " + part);
            }
        }
        return all;
    }

    private static List<String> middling() {
        List<String> all = rows("make 0 0", "make 0 1", "make 0 2", "make 1 1", "give 0 {0..2} 1 2", "give 0 1 2 3", "give 1 3 0 3", "give 0 0 3 1",
            "set 0 0 0 number 3", "formula 0 0 1 4 0 0 0 0");
        all.addAll(written(0, 1, 0, "abHab"));
        all.addAll(written(1, 3, 0, "ab"));
        all.addAll(rows("show 0 0 0 4", "show 0 1 0 2", "put 0 1 1 200", "send 0 1", "comment 1 1 1 2 5", "comment 0 1 0 0 -1", "slide 0 2 {0,1}",
            "box 0 2 -1 0 0 2", "box 0 2 0 1 1 1", "version", "set 0 0 5 number 2", "version", "line 0 5", "line 3 4", "put 2 1 0 3", "put 0 1 1 3", "model 0 1 3"));
        return all;
    }

    /** Six parts, a row of 40, a log of 300, six own edits, and as many slides, comments, shows, versions and lines as there may be. */
    private static List<String> full() {
        List<String> all = rows("make 0 0", "make 0 1", "make 0 2", "make 1 1", "make 1 0", "make 0 1", "give 0 {0,1,2,5} 1 3", "give 0 {0,1,2} 2 3", "give 0 5 2 2");
        all.addAll(written(0, 1, 0, FORTY));
        all.addAll(written(0, 5, 0, "ab"));
        for (int i = 2; i < 296; i += 6) {
            all.addAll(rows("put 0 5 2 {3,4,5}", "out 0 5 {2,2,2}", "send 0 5"));
        }
        all.addAll(rows("put 0 5 2 3", "out 0 5 2", "put 0 5 2 3", "out 0 5 2", "send {0..1} 5", "send {1,2} 1", "show 0 0 0 4", "show 0 1 0 39", "show 0 5 0 1",
            "show 0 0 {1..7} 11", "comment 0 1 0 39 5", "comment 0 5 0 1 3", "comment 0 1 {1..10} 12 -1", "close 0 2", "slide 0 2 {0..5}", "box 0 2 -1 {0..2} 0 3",
            "line 3 {0..7}", "version", "version", "put 0 5 {0..5} 3", "out 2 1 {0,0}", "put 2 1 {0,1} 5", "out 2 1 {3,4}", "give 0 1 2 2", "version", "version",
            "set 0 0 {0..11} number 1000", "version"));
        return all;
    }
}
