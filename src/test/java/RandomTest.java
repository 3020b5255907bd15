import java.lang.reflect.InvocationTargetException;
import java.lang.reflect.Method;
import java.util.ArrayList;
import java.util.List;
import java.util.Random;

/** Random runs of 512 calls, each answered by Notebookspire and by the Reference, and looked at whole every so often. */
public final class RandomTest {
    private static final class Run {
        final long seed;
        final Random random;
        final int mood;
        final Notebookspire real = new Notebookspire();
        final Reference due = new Reference();
        final List<String> calls = new ArrayList<>();
        int made;

        Run(long seed) {
            this.seed = seed;
            random = new Random(seed);
            mood = (int) (seed % 6);
        }
    }

    private static final List<Method> REAL = new ArrayList<>();
    private static final List<Method> DUE = new ArrayList<>();
    private static int wrong;

    public static void main(String[] args) throws Exception {
        for (Method m : Notebookspire.class.getDeclaredMethods()) {
            if (java.lang.reflect.Modifier.isPublic(m.getModifiers())) {
                REAL.add(m);
            }
        }
        REAL.sort((a, b) -> a.getName().compareTo(b.getName()));
        for (Method m : REAL) {
            Method n = Reference.class.getDeclaredMethod(m.getName(), m.getParameterTypes());
            n.setAccessible(true);
            DUE.add(n);
        }
        int runs = args.length > 0 ? Integer.parseInt(args[0]) : 400;
        long first = args.length > 1 ? Long.parseLong(args[1]) : 0;
        for (long seed = first; seed < first + runs && wrong < 3; seed++) {
            go(new Run(seed));
        }
        System.out.println("RandomTest: " + runs + " runs, " + wrong + " wrong");
        if (args.length > 2) {
            System.out.println(TALLY);
        }
        System.exit(wrong > 0 ? 1 : 0);
    }

    private static final java.util.TreeMap<String, Integer> TALLY = new java.util.TreeMap<>();

    private static void go(Run run) throws Exception {
        for (int i = 0; i < 512; i++) {
            int m = pick(run, i);
            Object[] args = arguments(run, REAL.get(m));
            if (!same(run, m, args)) {
                return;
            }
            if (i % 64 == 63 && !sameAll(run)) {
                return;
            }
        }
    }

    private static int find(String name) {
        for (int i = 0; i < REAL.size(); i++) {
            if (REAL.get(i).getName().equals(name)) {
                return i;
            }
        }
        throw new IllegalArgumentException(name);
    }

    private static final String[][] MOODS = {
        {},
        {"set", "formula", "formula", "formula", "value", "what", "rounds", "valueAnew", "show", "flatAt", "give"},
        {"put", "put", "put", "out", "see", "see", "send", "undo", "comment", "about", "take", "viewAt", "view", "token"},
        {"put", "put", "send", "comment", "show", "freeze", "shownAt", "redrawn", "flatAt", "box", "slide", "set", "formula", "out"},
        {"line", "run", "run", "takeIn", "change", "undo", "undo", "send", "put", "wipe", "version", "difference", "out", "flat"},
        {"put", "put", "put", "put", "put", "send", "send", "takeIn", "run", "line", "undo", "out", "see", "comment", "take", "change", "about"},
    };

    /** Which kinds of parts each mood begins with. */
    private static final int[][] KINDS = {{0, 1, 2}, {0, 0, 0, 2, 1}, {1, 1}, {1, 0, 2, 1}, {1, 0, 1}, {1, 0}};

    private static int pick(Run run, int i) {
        Random r = run.random;
        if (i < KINDS[run.mood].length || r.nextInt(200) == 0) {
            return find("make");
        }
        if (i < 25 && r.nextInt(2) == 0) {
            return find("give");
        }
        String[] mood = MOODS[run.mood];
        if (mood.length > 0 && r.nextInt(6) > 0) {
            return find(mood[r.nextInt(mood.length)]);
        }
        return r.nextInt(REAL.size());
    }

    private static int near(Random r, int least, int most) {
        int kind = r.nextInt(240);
        if (kind == 0) {
            return least - 1;
        }
        if (kind == 1) {
            return most + 1;
        }
        if (kind == 2) {
            return r.nextBoolean() ? Integer.MIN_VALUE : Integer.MAX_VALUE;
        }
        return least + r.nextInt(most - least + 1);
    }

    private static int text(Run run) {
        return kind(run, 1);
    }

    /** Mostly a part of the kind asked for. */
    private static int kind(Run run, int kind) {
        Random r = run.random;
        if (r.nextInt(50) == 0) {
            return near(r, -1, 5);
        }
        int part = r.nextInt(6);
        for (int i = 0; i < 6; i++) {
            int p = (part + i) % 6;
            if (run.due.kindOf(p) == kind) {
                return p;
            }
        }
        return part;
    }

    private static int rowLength(Run run, int part) {
        try {
            return run.due.length(part);
        } catch (IndexOutOfBoundsException e) {
            return 12;
        }
    }

    private static int viewLength(Run run, int person, int part) {
        try {
            return run.due.view(person, part);
        } catch (RuntimeException e) {
            return rowLength(run, part);
        }
    }

    private static int letter(Random r) {
        return r.nextInt(3) > 0 ? r.nextInt(3) : near(r, 0, 25);
    }

    private static Object[] arguments(Run run, Method m) {
        Random r = run.random;
        int person = r.nextInt(3) > 0 ? r.nextInt(2) : near(r, 0, 3);
        int sheet = kind(run, 0);
        int text = text(run);
        int deck = kind(run, 2);
        int any = near(r, 0, Math.max(0, run.made - 1));
        int show = near(r, 0, Math.max(0, shows(run) - 1));
        int note = near(r, 0, Math.max(0, notes(run) - 1));
        switch (m.getName()) {
            case "make":
                int made = run.made++;
                return new Object[] {person, made < KINDS[run.mood].length ? KINDS[run.mood][made] : near(r, 0, 2)};
            case "give":
                return new Object[] {owner(run, any, person), any, near(r, 0, 3), r.nextInt(3) > 0 ? 3 : near(r, 0, 3)};
            case "right":
                return new Object[] {any, person};
            case "set":
                return new Object[] {person, sheet, near(r, 0, 11), r.nextInt(3) == 0,
                    r.nextBoolean() ? near(r, 0, 5) : near(r, -1000, 1000)};
            case "formula":
                return new Object[] {person, sheet, near(r, 0, 11), near(r, 0, 4), r.nextBoolean() ? sheet : kind(run, 0),
                    near(r, 0, 11), r.nextBoolean() ? sheet : kind(run, 0), near(r, 0, 11)};
            case "what":
            case "value":
            case "valueAnew":
                return new Object[] {person, sheet, near(r, 0, 11)};
            case "put":
                return new Object[] {person, text, near(r, 0, viewLength(run, person, text)), sign(run)};
            case "out":
            case "viewAt":
                return new Object[] {person, text, near(r, 0, Math.max(0, viewLength(run, person, text) - 1))};
            case "see":
            case "send":
            case "undo":
            case "view":
                return new Object[] {person, text};
            case "length":
            case "log":
                return new Object[] {text};
            case "token":
            case "tokenByLog":
            case "block":
                return new Object[] {text, near(r, 0, rowLength(run, text))};
            case "setSize":
                return new Object[] {person, text, near(r, 0, 3), r.nextInt(3) == 0 ? 0 : near(r, 0, 99)};
            case "size":
                return new Object[] {text, near(r, 0, 3)};
            case "model":
                return new Object[] {person, text, r.nextInt(4) == 0 ? -1 : text(run)};
            case "comment": {
                int first = near(r, 0, Math.max(0, rowLength(run, text) - 1));
                return new Object[] {person, text, first, r.nextInt(8) == 0 ? near(r, 0, 5) : first + r.nextInt(4), near(r, -1, 25)};
            }
            case "about":
                return new Object[] {note};
            case "close":
            case "take":
                return new Object[] {person, note};
            case "slide":
                return new Object[] {person, deck, near(r, 0, 3)};
            case "drop":
                return new Object[] {person, deck, near(r, 0, 5)};
            case "box":
                return new Object[] {person, deck, near(r, -1, 3), near(r, 0, 2), r.nextInt(5) == 0 ? -1 : show, near(r, 0, 3)};
            case "show": {
                if (r.nextInt(3) == 0) {
                    return new Object[] {person, sheet, near(r, 0, 11), near(r, 0, 11)};
                }
                int first = near(r, 0, Math.max(0, rowLength(run, text) - 1));
                return new Object[] {person, text, first, first + r.nextInt(1 + Math.max(1, rowLength(run, text) - first))};
            }
            case "freeze":
            case "shown":
                return new Object[] {person, show};
            case "shownAt":
                return new Object[] {person, show, r.nextInt(4) == 0 ? near(r, 0, 80) : near(r, 0, 20)};
            case "flat":
                return new Object[] {person, any, near(r, 0, 3)};
            case "flatAt":
                return new Object[] {person, any, near(r, 0, 3), near(r, 0, 40)};
            case "takeIn":
                return new Object[] {person, any, text};
            case "change":
                return new Object[] {person, letter(r), r.nextInt(3) == 0 ? -1 : letter(r), letter(r)};
            case "difference":
                return new Object[] {near(r, 0, 4), near(r, 0, 4), any};
            case "line": {
                int kind = r.nextInt(3) == 0 ? near(r, 0, 5) : 3;
                return new Object[] {kind, r.nextInt(10) == 0 ? near(r, -99, 99) : near(r, 0, 9)};
            }
            case "run":
                return new Object[] {person, sheet, text};
            default:
                return new Object[0];
        }
    }

    private static int sign(Run run) {
        Random r = run.random;
        switch (r.nextInt(12)) {
            case 0:
            case 1:
                return near(r, 100, 103);
            case 2:
            case 3:
                return near(r, 200, 200 + Math.max(0, shows(run) - 1));
            case 4:
                return near(r, -2, 230);
            default:
                return letter(r);
        }
    }

    private static int shows(Run run) {
        int n = 0;
        while (n < 11) {
            try {
                run.due.shown(0, n);
                n++;
            } catch (IndexOutOfBoundsException e) {
                return n;
            }
        }
        return n;
    }

    private static int notes(Run run) {
        int n = 0;
        while (n < 13) {
            try {
                run.due.about(n);
                n++;
            } catch (IndexOutOfBoundsException e) {
                return n;
            }
        }
        return n;
    }

    private static int owner(Run run, int part, int person) {
        return run.random.nextInt(12) == 0 ? person : run.due.ownerOf(part);
    }

    private static Object answer(Method m, Object on, Object[] args) throws Exception {
        try {
            Object got = m.invoke(on, args);
            return got == null ? "void" : got;
        } catch (InvocationTargetException e) {
            if (!(e.getCause() instanceof RuntimeException)) {
                e.getCause().printStackTrace();
            }
            return e.getCause().getClass().getName();
        }
    }

    private static boolean same(Run run, int m, Object... args) throws Exception {
        Object want = answer(DUE.get(m), run.due, args);
        Object got = answer(REAL.get(m), run.real, args);
        String call = REAL.get(m).getName() + java.util.Arrays.toString(args);
        run.calls.add(call + " -> " + got);
        String what = want.toString();
        TALLY.merge(REAL.get(m).getName() + " " + (what.startsWith("java") ? what : "ok"), 1, Integer::sum);
        if (!want.equals(got)) {
            wrong++;
            System.out.println("seed " + run.seed + ": " + call + " answered " + got + ", due is " + want);
            for (String s : run.calls.subList(Math.max(0, run.calls.size() - 400), run.calls.size())) {
                System.out.println("   " + s);
            }
            return false;
        }
        return true;
    }

    /** Everything that can be asked without changing anything. */
    private static boolean sameAll(Run run) throws Exception {
        boolean fine = same(run, find("rounds"));
        for (int part = 0; part < run.made && fine; part++) {
            for (int person = 0; person < 4; person++) {
                fine &= same(run, find("right"), part, person);
                for (int step = 0; step < 4; step += 3) {
                    fine &= same(run, find("flat"), person, part, step);
                    for (int i = 0; i < 8 && fine; i++) {
                        fine = same(run, find("flatAt"), person, part, step, i * i);
                    }
                }
                fine = fine && same(run, find("view"), person, part);
                for (int i = 0; i < 12 && fine; i++) {
                    fine = same(run, find("value"), person, part, i) && same(run, find("what"), person, part, i);
                }
                for (int i = 0; i <= viewLength(run, person, part) && fine; i++) {
                    fine = same(run, find("viewAt"), person, part, i);
                }
            }
            for (int i = 0; i <= rowLength(run, part) && fine; i++) {
                fine = same(run, find("token"), part, i) && same(run, find("tokenByLog"), part, i) && same(run, find("block"), part, i);
            }
            for (int sort = 0; sort < 4 && fine; sort++) {
                fine = same(run, find("size"), part, sort);
            }
            fine = fine && same(run, find("log"), part) && same(run, find("length"), part);
            for (int v = 0; v < 25 && fine; v++) {
                fine = same(run, find("difference"), v / 5, v % 5, part);
            }
        }
        for (int i = 0; i < notes(run) && fine; i++) {
            fine = same(run, find("about"), i);
        }
        for (int i = 0; i < shows(run) && fine; i++) {
            for (int person = 0; person < 4 && fine; person++) {
                fine = same(run, find("shown"), person, i);
                for (int at = 0; at <= run.due.shown(person, i) && fine; at++) {
                    fine = same(run, find("shownAt"), person, i, at);
                }
            }
        }
        return fine;
    }
}
