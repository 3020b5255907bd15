/** What the tests of the promises use: answers that are due, calls that are refused, and rows and characters as texts. */
final class Check {
    interface Call {
        void go();
    }

    static final int NONE = Notebookspire.NONE;
    private static int wrong;
    private static int asked;

    private Check() {
    }

    static void due(String what, long got, long want) {
        due(what, Long.toString(got), Long.toString(want));
    }

    static void due(String what, boolean got, boolean want) {
        due(what, Boolean.toString(got), Boolean.toString(want));
    }

    static void due(String what, String got, String want) {
        asked++;
        if (!got.equals(want)) {
            wrong++;
            System.out.println(what + ": answered " + got + ", due is " + want);
        }
    }

    /** The call throws just that class, and changes nothing that can be seen. */
    private static void refused(String what, Notebookspire x, Class<?> want, Call call) {
        String before = look(x);
        String got = "nothing";
        try {
            call.go();
        } catch (RuntimeException e) {
            got = e.getClass().getName();
        }
        due(what + " throws", got, want.getName());
        due(what + " leaves everything", look(x), before);
    }

    static void index(String what, Notebookspire x, Call call) {
        refused(what, x, IndexOutOfBoundsException.class, call);
    }

    static void argument(String what, Notebookspire x, Call call) {
        refused(what, x, IllegalArgumentException.class, call);
    }

    static void right(String what, Notebookspire x, Call call) {
        refused(what, x, UnsupportedOperationException.class, call);
    }

    static void state(String what, Notebookspire x, Call call) {
        refused(what, x, IllegalStateException.class, call);
    }

    static int[] outside(int least, int most) {
        return new int[] {least - 1, most + 1, Integer.MIN_VALUE, Integer.MAX_VALUE};
    }

    /** A token as it is written in these tests: a letter, one of H, S, B and R, or the number of a show. */
    static int token(char sign) {
        if (sign >= 'a' && sign <= 'z') {
            return sign - 'a';
        }
        return "HSBR".indexOf(sign) >= 0 ? 100 + "HSBR".indexOf(sign) : 200 + sign - '0';
    }

    static char sign(int token) {
        return token < 26 ? (char) ('a' + token) : token < 200 ? "HSBR".charAt(token - 100) : (char) ('0' + token - 200);
    }

    /** Puts tokens in behind the view, and sends them, six at a time. */
    static void write(Notebookspire x, int person, int part, String tokens) {
        x.send(person, part);
        for (char c : tokens.toCharArray()) {
            if (x.put(person, part, x.view(person, part), token(c)) == 6) {
                x.send(person, part);
            }
        }
        x.send(person, part);
    }

    /** Takes all out, so that tokens can be written anew. */
    static void clear(Notebookspire x, int person, int part) {
        x.send(person, part);
        while (x.length(part) > 0) {
            x.out(person, part, 0);
            x.send(person, part);
        }
    }

    static String row(Notebookspire x, int part) {
        StringBuilder b = new StringBuilder();
        for (int i = 0; i < x.length(part); i++) {
            b.append(sign(x.token(part, i)));
        }
        return b.toString();
    }

    static String rowByLog(Notebookspire x, int part) {
        StringBuilder b = new StringBuilder();
        for (int i = 0; i < x.length(part); i++) {
            b.append(sign(x.tokenByLog(part, i)));
        }
        return b.toString();
    }

    static String view(Notebookspire x, int person, int part) {
        StringBuilder b = new StringBuilder();
        for (int i = 0; i < x.view(person, part); i++) {
            b.append(sign(x.viewAt(person, part, i)));
        }
        return b.toString();
    }

    static String shown(Notebookspire x, int person, int show) {
        StringBuilder b = new StringBuilder();
        for (int i = 0; i < x.shown(person, show); i++) {
            b.append(x.shownAt(person, show, i));
        }
        return b.toString();
    }

    static String flat(Notebookspire x, int person, int part, int step) {
        StringBuilder b = new StringBuilder();
        for (int i = 0; i < x.flat(person, part, step); i++) {
            b.append(x.flatAt(person, part, step, i));
        }
        return b.toString();
    }

    static String cells(Notebookspire x, int person, int part) {
        return flat(x, person, part, 0);
    }

    private interface Asked {
        Object ask();
    }

    private static String tried(Asked asked) {
        try {
            return String.valueOf(asked.ask());
        } catch (RuntimeException e) {
            return e.getClass().getSimpleName();
        }
    }

    private static String orEmpty(Asked asked) {
        String got = tried(asked);
        return got.endsWith("Exception") ? "!" : got;
    }

    /** All that can be asked for without changing anything. */
    static String look(Notebookspire x) {
        StringBuilder b = new StringBuilder();
        b.append(x.rounds());
        for (int p = 0; p < 6; p++) {
            int part = p;
            b.append('\n').append(orEmpty(() -> row(x, part))).append(' ').append(tried(() -> x.log(part)));
            for (int i = 0; i < 4; i++) {
                int j = i;
                b.append('\n').append(tried(() -> x.right(part, j))).append(' ').append(tried(() -> x.size(part, j)));
                b.append(' ').append(orEmpty(() -> view(x, j, part)));
                b.append(' ').append(orEmpty(() -> flat(x, j, part, 3))).append(orEmpty(() -> flat(x, j, part, 0)));
            }
            for (int v = 0; v < 5; v++) {
                int w = v;
                b.append(' ').append(tried(() -> x.difference(0, w, part)));
            }
        }
        for (int i = 0; i < 12; i++) {
            int j = i;
            b.append(' ').append(tried(() -> x.about(j)));
        }
        for (int i = 0; i < 40; i++) {
            int j = i;
            b.append(' ').append(orEmpty(() -> shown(x, j % 4, j / 4)));
        }
        return b.toString();
    }

    static void end(String name) {
        System.out.println(name + ": " + asked + " answers, " + wrong + " wrong");
        if (wrong > 0) {
            System.exit(1);
        }
    }
}
