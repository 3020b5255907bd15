import java.util.ArrayList;
import java.util.Arrays;
import java.util.List;

/**
 * The document once more, told another way: every row is found from the log anew, comments hold the very tokens they
 * are about, and a call that is refused gives back a copy of everything. Slow, and for tests alone.
 */
final class Reference {
    private static final class Token {
        final int sign;

        Token(int sign) {
            this.sign = sign;
        }
    }

    private static final class Change implements Cloneable {
        /** 'v', 'p' or 't': void, puts in, takes out. */
        char does;
        int place;
        Token token;
        int person;
        boolean undo;
        boolean undone;

        Change(char does, int place, Token token, int person) {
            this.does = does;
            this.place = place;
            this.token = token;
            this.person = person;
        }

        Change copy() {
            Change c = new Change(does, place, token, person);
            c.undo = undo;
            c.undone = undone;
            return c;
        }
    }

    private static final class Piece {
        int kind;
        int owner;
        int[] rights = new int[4];
        String[] cells = new String[12];
        List<Change> log = new ArrayList<>();
        int[] seen = new int[4];
        List<List<Change>> own = new ArrayList<>();
        int[] sizes = new int[4];
        int model = -1;
        List<int[]> slides = new ArrayList<>();
        int[] master = {-1, 0, -1, 0, -1, 0};

        Piece copy() {
            Piece p = new Piece();
            p.kind = kind;
            p.owner = owner;
            p.rights = rights.clone();
            p.cells = cells.clone();
            for (Change c : log) {
                p.log.add(c.copy());
            }
            p.seen = seen.clone();
            for (List<Change> l : own) {
                List<Change> m = new ArrayList<>();
                for (Change c : l) {
                    m.add(c.copy());
                }
                p.own.add(m);
            }
            p.sizes = sizes.clone();
            p.model = model;
            for (int[] s : slides) {
                p.slides.add(s.clone());
            }
            p.master = master.clone();
            return p;
        }
    }

    /** What a comment or a show of tokens is about: the tokens themselves. */
    private static final class About {
        int part;
        int person;
        int suggested;
        boolean closed;
        List<Token> tokens = new ArrayList<>();
        int first;
        int last;
        boolean frozen;
        String still;
        String asked;

        About copy() {
            About a = new About();
            a.part = part;
            a.person = person;
            a.suggested = suggested;
            a.closed = closed;
            a.tokens = new ArrayList<>(tokens);
            a.first = first;
            a.last = last;
            a.frozen = frozen;
            a.still = still;
            a.asked = asked;
            return a;
        }
    }

    private List<Piece> parts = new ArrayList<>();
    private List<About> comments = new ArrayList<>();
    private List<About> shows = new ArrayList<>();
    private List<List<Piece>> versions = new ArrayList<>();
    private List<int[]> lines = new ArrayList<>();

    private void restore(Reference old) {
        parts = old.parts;
        comments = old.comments;
        shows = old.shows;
    }

    private Reference copy() {
        Reference r = new Reference();
        for (Piece p : parts) {
            r.parts.add(p.copy());
        }
        for (About a : comments) {
            r.comments.add(a.copy());
        }
        for (About a : shows) {
            r.shows.add(a.copy());
        }
        return r;
    }

    private static void index(boolean fine) {
        if (!fine) {
            throw new IndexOutOfBoundsException();
        }
    }

    private static void argument(boolean fine) {
        if (!fine) {
            throw new IllegalArgumentException();
        }
    }

    private static void right(boolean fine) {
        if (!fine) {
            throw new UnsupportedOperationException();
        }
    }

    private static void state(boolean fine) {
        if (!fine) {
            throw new IllegalStateException();
        }
    }

    private static boolean in(int x, int least, int most) {
        return x >= least && x <= most;
    }

    private boolean is(int part, int kind) {
        return in(part, 0, parts.size() - 1) && parts.get(part).kind == kind;
    }

    private boolean may(int person, int part, int least) {
        return parts.get(part).rights[person] >= least;
    }

    int kindOf(int part) {
        return in(part, 0, parts.size() - 1) ? parts.get(part).kind : -1;
    }

    int ownerOf(int part) {
        return in(part, 0, parts.size() - 1) ? parts.get(part).owner : 0;
    }

    public int make(int person, int kind) {
        index(in(person, 0, 3));
        argument(in(kind, 0, 2));
        state(parts.size() < 6);
        Piece p = new Piece();
        p.kind = kind;
        p.owner = person;
        p.rights[person] = 3;
        for (int i = 0; i < 4; i++) {
            p.own.add(new ArrayList<>());
        }
        Arrays.fill(p.cells, "");
        parts.add(p);
        return parts.size() - 1;
    }

    public int give(int person, int part, int other, int right) {
        index(in(person, 0, 3) && in(other, 0, 3) && in(part, 0, parts.size() - 1));
        argument(in(right, 0, 3) && parts.get(part).owner != other);
        right(parts.get(part).owner == person);
        int old = parts.get(part).rights[other];
        parts.get(part).rights[other] = right;
        return old;
    }

    public int right(int part, int person) {
        index(in(person, 0, 3) && in(part, 0, parts.size() - 1));
        return parts.get(part).rights[person];
    }

    // Cells are texts: "" blank, "n" a number, "kind sheet first other second" a formula.

    public void set(int person, int part, int cell, boolean isBlank, int number) {
        index(in(person, 0, 3) && is(part, 0) && in(cell, 0, 11));
        argument(isBlank || in(number, -1000, 1000));
        right(may(person, part, 3));
        parts.get(part).cells[cell] = isBlank ? "" : "" + number;
    }

    public void formula(int person, int part, int cell, int kind, int sheet, int first, int other, int second) {
        index(in(person, 0, 3) && is(part, 0) && in(cell, 0, 11) && is(sheet, 0) && in(first, 0, 11));
        if (kind != 4) {
            index(in(second, 0, 11));
            if (kind != 3) {
                index(is(other, 0));
            }
        }
        argument(in(kind, 0, 4));
        right(may(person, part, 3));
        String text = kind + " " + sheet + " " + first;
        if (kind < 3) {
            text += " " + other + " " + second;
        } else if (kind == 3) {
            text += " - " + second;
        }
        parts.get(part).cells[cell] = text;
    }

    /** Values: null blank, a Long number, a String error "1" to "3"; of a LIST also a count. */
    private final class Found {
        final Object[][] values = new Object[parts.size()][12];
        final int[][] counts = new int[parts.size()][12];
        int rounds;

        Found() {
            for (int p = 0; p < parts.size(); p++) {
                for (int c = 0; c < 12; c++) {
                    values[p][c] = 0L;
                    counts[p][c] = parts.get(p).cells[c].startsWith("4 ") ? 1 : 0;
                }
            }
            boolean moved;
            do {
                rounds++;
                moved = false;
                for (int p = 0; p < parts.size(); p++) {
                    for (int c = 0; c < 12; c++) {
                        if (parts.get(p).kind == 0 && parts.get(p).cells[c].contains(" ")) {
                            Object oldValue = values[p][c];
                            int oldCount = counts[p][c];
                            evaluate(p, c);
                            moved |= !oldValue.equals(values[p][c]) || oldCount != counts[p][c];
                        }
                    }
                }
            } while (moved && rounds < 20);
        }

        Object at(int p, int c) {
            String text = parts.get(p).cells[c];
            if (text.contains(" ")) {
                return values[p][c];
            }
            if (!text.isEmpty()) {
                return Long.parseLong(text);
            }
            int above = c - 3;
            while (above >= 0 && parts.get(p).cells[above].isEmpty()) {
                above -= 3;
            }
            if (above < 0 || !parts.get(p).cells[above].startsWith("4 ") || !(values[p][above] instanceof Long)) {
                return null;
            }
            int nth = (c - above) / 3 + 1;
            return nth <= counts[p][above] ? (Object) (long) nth : null;
        }

        Object from(int own, int p, int c) {
            return parts.get(p).rights[parts.get(own).owner] == 0 ? "3" : at(p, c);
        }

        Object limited(long n) {
            return Math.abs(n) > 1000000 ? "1" : (Object) n;
        }

        void evaluate(int p, int c) {
            String[] w = parts.get(p).cells[c].split(" ");
            int sheet = Integer.parseInt(w[1]);
            int first = Integer.parseInt(w[2]);
            switch (w[0]) {
                case "3": {
                    int last = Integer.parseInt(w[4]);
                    long sum = 0;
                    for (int i = 0; i < 12; i++) {
                        if (inRange(i, first, last)) {
                            Object v = from(p, sheet, i);
                            if (v instanceof String) {
                                values[p][c] = v;
                                return;
                            }
                            sum += v == null ? 0 : (Long) v;
                        }
                    }
                    values[p][c] = limited(sum);
                    return;
                }
                case "4": {
                    counts[p][c] = 0;
                    Object v = from(p, sheet, first);
                    if (v instanceof String) {
                        values[p][c] = v;
                        return;
                    }
                    long n = v == null ? 0 : (Long) v;
                    if (n < 1 || n > 4) {
                        values[p][c] = "1";
                        return;
                    }
                    for (int i = 1; i < n; i++) {
                        if (c + 3 * i > 11 || !parts.get(p).cells[c + 3 * i].isEmpty()) {
                            values[p][c] = "2";
                            return;
                        }
                    }
                    values[p][c] = 1L;
                    counts[p][c] = (int) n;
                    return;
                }
                default: {
                    Object v = from(p, sheet, first);
                    Object u = from(p, Integer.parseInt(w[3]), Integer.parseInt(w[4]));
                    if (v instanceof String || u instanceof String) {
                        values[p][c] = v instanceof String ? v : u;
                        return;
                    }
                    long a = v == null ? 0 : (Long) v;
                    long b = u == null ? 0 : (Long) u;
                    values[p][c] = limited(w[0].equals("0") ? a + b : w[0].equals("1") ? a - b : a * b);
                }
            }
        }
    }

    private static boolean inRange(int cell, int first, int last) {
        return in(cell / 3, Math.min(first / 3, last / 3), Math.max(first / 3, last / 3))
                && in(cell % 3, Math.min(first % 3, last % 3), Math.max(first % 3, last % 3));
    }

    public int what(int person, int part, int cell) {
        index(in(person, 0, 3) && is(part, 0) && in(cell, 0, 11));
        right(may(person, part, 1));
        Object v = new Found().at(part, cell);
        return v == null ? 0 : v instanceof Long ? 1 : 2;
    }

    public int value(int person, int part, int cell) {
        index(in(person, 0, 3) && is(part, 0) && in(cell, 0, 11));
        right(may(person, part, 1));
        Object v = new Found().at(part, cell);
        return v == null ? 0 : Integer.parseInt(v.toString());
    }

    public int valueAnew(int person, int part, int cell) {
        return value(person, part, cell);
    }

    public int rounds() {
        return new Found().rounds;
    }

    private static List<Token> replay(List<Change> changes, int most, List<Token> from) {
        List<Token> row = new ArrayList<>(from);
        for (int i = 0; i < most; i++) {
            Change c = changes.get(i);
            if (c.does == 'p') {
                row.add(c.place, c.token);
            } else if (c.does == 't') {
                row.remove(c.place);
            }
        }
        return row;
    }

    private List<Token> row(int part) {
        return replay(parts.get(part).log, parts.get(part).log.size(), new ArrayList<>());
    }

    private List<Token> seenRow(int part, int person) {
        Piece p = parts.get(part);
        List<Change> own = p.own.get(person);
        return replay(own, own.size(), replay(p.log, p.seen[person], new ArrayList<>()));
    }

    private static Change turned(Change e, Change f) {
        Change r = e.copy();
        String both = "" + e.does + f.does;
        int p = e.place;
        int q = f.place;
        switch (both) {
            case "pp":
                r.place = q < p || q == p && (f.person < e.person || f.person == e.person) ? p + 1 : p;
                break;
            case "tp":
                r.place = q > p ? p : p + 1;
                break;
            case "pt":
                r.place = q < p ? p - 1 : p;
                break;
            case "tt":
                r.place = q < p ? p - 1 : p;
                r.does = q == p ? 'v' : 't';
                break;
            default:
        }
        return r;
    }

    private static void turnAll(List<Change> own, int from, Change f) {
        Change by = f;
        for (int i = from; i < own.size(); i++) {
            Change e = own.get(i);
            own.set(i, turned(e, by));
            by = turned(by, e);
        }
    }

    private static Change back(Change c) {
        return new Change(c.does == 'p' ? 't' : c.does == 't' ? 'p' : 'v', c.place,
                c.token == null ? null : new Token(c.token.sign), c.person);
    }

    private void append(int part, Change c) {
        Piece p = parts.get(part);
        state(p.log.size() < 300);
        Change last = c.copy();
        List<Token> before = row(part);
        if (c.does == 't') {
            last.token = before.get(c.place);
        }
        p.log.add(last);
        List<Token> after = row(part);
        List<About> all = new ArrayList<>(comments);
        all.addAll(shows);
        for (About a : all) {
            if (a.part == part) {
                if (c.does == 't') {
                    a.tokens.remove(last.token);
                } else if (c.does == 'p' && !a.tokens.isEmpty()) {
                    int first = after.indexOf(a.tokens.get(0));
                    int end = after.indexOf(a.tokens.get(a.tokens.size() - 1));
                    if (first < c.place && c.place < end) {
                        a.tokens.add(c.place - first, c.token);
                    }
                }
                a.closed |= a.tokens.isEmpty();
            }
        }
    }

    private void make(int part, int person, char does, int place, int sign) {
        append(part, new Change(does, place, does == 'p' ? new Token(sign) : null, person));
        parts.get(part).seen[person] = parts.get(part).log.size();
    }

    private void sendAll(int part, int person) {
        Piece p = parts.get(part);
        List<Change> own = p.own.get(person);
        while (p.seen[person] < p.log.size()) {
            turnAll(own, 0, p.log.get(p.seen[person]++));
        }
        for (int i = 0; i < own.size(); i++) {
            Change c = own.get(i);
            if (c.does == 'p' && row(part).size() >= 40) {
                turnAll(own, i + 1, back(c));
                c.does = 'v';
            }
            append(part, c);
        }
        own.clear();
        p.seen[person] = p.log.size();
    }

    public int put(int person, int part, int place, int token) {
        index(in(person, 0, 3) && is(part, 1));
        List<Token> view = seenRow(part, person);
        index(in(place, 0, view.size()));
        argument(in(token, 0, 25) || in(token, 100, 103) || in(token, 200, 199 + shows.size()));
        right(may(person, part, 3));
        List<Change> own = parts.get(part).own.get(person);
        state(view.size() < 40 && own.size() < 6);
        own.add(new Change('p', place, new Token(token), person));
        return own.size();
    }

    public int out(int person, int part, int place) {
        index(in(person, 0, 3) && is(part, 1) && in(place, 0, seenRow(part, person).size() - 1));
        right(may(person, part, 3));
        List<Change> own = parts.get(part).own.get(person);
        state(own.size() < 6);
        own.add(new Change('t', place, null, person));
        return own.size();
    }

    public int see(int person, int part) {
        index(in(person, 0, 3) && is(part, 1));
        right(may(person, part, 1));
        Piece p = parts.get(part);
        if (p.seen[person] < p.log.size()) {
            turnAll(p.own.get(person), 0, p.log.get(p.seen[person]++));
        }
        return p.log.size() - p.seen[person];
    }

    public int send(int person, int part) {
        index(in(person, 0, 3) && is(part, 1));
        right(may(person, part, 3));
        Reference old = copy();
        try {
            sendAll(part, person);
        } catch (IllegalStateException e) {
            restore(old);
            throw e;
        }
        return parts.get(part).log.size();
    }

    public boolean undo(int person, int part) {
        index(in(person, 0, 3) && is(part, 1));
        right(may(person, part, 3));
        Reference old = copy();
        try {
            sendAll(part, person);
            List<Change> log = parts.get(part).log;
            int at = log.size() - 1;
            while (at >= 0 && (log.get(at).person != person || log.get(at).does == 'v' || log.get(at).undo || log.get(at).undone)) {
                at--;
            }
            state(at >= 0);
            Change back = back(log.get(at));
            back.undo = true;
            for (int i = at + 1; i < log.size(); i++) {
                back = turned(back, log.get(i));
            }
            log.get(at).undone = true;
            if (back.does == 'p' && row(part).size() >= 40) {
                back.does = 'v';
            }
            append(part, back);
            parts.get(part).seen[person] = log.size();
            return back.does != 'v';
        } catch (IllegalStateException e) {
            restore(old);
            throw e;
        }
    }

    public int view(int person, int part) {
        index(in(person, 0, 3) && is(part, 1));
        right(may(person, part, 1));
        return seenRow(part, person).size();
    }

    public int viewAt(int person, int part, int place) {
        index(in(person, 0, 3) && is(part, 1));
        index(in(place, 0, seenRow(part, person).size() - 1));
        right(may(person, part, 1));
        return seenRow(part, person).get(place).sign;
    }

    public int length(int part) {
        index(is(part, 1));
        return row(part).size();
    }

    public int token(int part, int place) {
        index(is(part, 1) && in(place, 0, row(part).size() - 1));
        return row(part).get(place).sign;
    }

    public int tokenByLog(int part, int place) {
        return token(part, place);
    }

    public int log(int part) {
        index(is(part, 1));
        return parts.get(part).log.size();
    }

    public int block(int part, int place) {
        index(is(part, 1) && in(place, 0, row(part).size()));
        return blockOf(row(part), place);
    }

    private static int blockOf(List<Token> row, int place) {
        int begin = Math.min(place, row.size() - 1);
        while (begin >= 0 && !in(row.get(begin).sign, 100, 103)) {
            begin--;
        }
        if (begin < 0) {
            return 0;
        }
        int heads = 0;
        int remarks = 0;
        int latest = -1;
        for (int i = 0; i <= begin; i++) {
            heads += row.get(i).sign == 100 ? 1 : 0;
            remarks += row.get(i).sign == 103 ? 1 : 0;
            latest = row.get(i).sign == 100 ? i : latest;
        }
        int subs = 0;
        for (int i = latest + 1; i <= begin; i++) {
            subs += row.get(i).sign == 101 ? 1 : 0;
        }
        return new int[] {100 * heads, 100 * heads + subs, 0, remarks}[row.get(begin).sign - 100];
    }

    public int setSize(int person, int part, int sort, int size) {
        index(in(person, 0, 3) && is(part, 1));
        argument(in(sort, 0, 3) && in(size, 0, 99));
        right(may(person, part, 3));
        int old = size(part, sort);
        parts.get(part).sizes[sort] = size;
        return old;
    }

    public int size(int part, int sort) {
        index(is(part, 1));
        argument(in(sort, 0, 3));
        Piece p = parts.get(part);
        if (p.sizes[sort] > 0) {
            return p.sizes[sort];
        }
        return p.model >= 0 ? size(p.model, sort) : sort == 0 ? 30 : sort == 1 ? 20 : sort == 2 ? 10 : 8;
    }

    public int model(int person, int part, int model) {
        index(in(person, 0, 3) && is(part, 1) && (model == -1 || is(model, 1)));
        right(may(person, part, 3) && (model == -1 || may(person, model, 1)));
        for (int m = model; m != -1; m = parts.get(m).model) {
            state(m != part);
        }
        int old = parts.get(part).model;
        parts.get(part).model = model;
        return old;
    }

    public int comment(int person, int part, int first, int last, int suggested) {
        index(in(person, 0, 3) && is(part, 1));
        index(in(first, 0, row(part).size() - 1) && in(last, first, row(part).size() - 1));
        argument(in(suggested, -1, 25));
        right(may(person, part, 2));
        state(comments.size() < 12);
        About a = new About();
        a.part = part;
        a.person = person;
        a.suggested = suggested;
        a.tokens = new ArrayList<>(row(part).subList(first, last + 1));
        comments.add(a);
        return comments.size() - 1;
    }

    public int about(int comment) {
        index(in(comment, 0, comments.size() - 1));
        About a = comments.get(comment);
        return a.closed ? -1 : 100 * row(a.part).indexOf(a.tokens.get(0)) + a.tokens.size();
    }

    public boolean close(int person, int comment) {
        index(in(person, 0, 3) && in(comment, 0, comments.size() - 1));
        About a = comments.get(comment);
        right(a.person == person || may(person, a.part, 3));
        boolean open = !a.closed;
        a.closed = true;
        return open;
    }

    public int take(int person, int comment) {
        index(in(person, 0, 3) && in(comment, 0, comments.size() - 1));
        int part = comments.get(comment).part;
        right(may(person, part, 3));
        Reference old = copy();
        try {
            sendAll(part, person);
            About a = comments.get(comment);
            state(!a.closed && a.suggested >= 0);
            int first = row(part).indexOf(a.tokens.get(0));
            int n = a.tokens.size();
            for (int i = n - 1; i >= 0; i--) {
                make(part, person, 't', first + i, -1);
            }
            make(part, person, 'p', first, a.suggested);
            a.closed = true;
        } catch (IllegalStateException e) {
            restore(old);
            throw e;
        }
        return parts.get(part).log.size();
    }

    public int slide(int person, int part, int at) {
        index(in(person, 0, 3) && is(part, 2) && in(at, 0, parts.get(part).slides.size()));
        right(may(person, part, 3));
        state(parts.get(part).slides.size() < 6);
        parts.get(part).slides.add(at, new int[] {-1, 0, -1, 0, -1, 0});
        return parts.get(part).slides.size();
    }

    public int drop(int person, int part, int slide) {
        index(in(person, 0, 3) && is(part, 2) && in(slide, 0, parts.get(part).slides.size() - 1));
        right(may(person, part, 3));
        parts.get(part).slides.remove(slide);
        return parts.get(part).slides.size();
    }

    public int box(int person, int part, int slide, int box, int show, int step) {
        index(in(person, 0, 3) && is(part, 2) && in(slide, -1, parts.get(part).slides.size() - 1));
        index(in(box, 0, 2) && in(show, -1, shows.size() - 1));
        argument(in(step, 0, 3));
        right(may(person, part, 3));
        int[] boxes = slide < 0 ? parts.get(part).master : parts.get(part).slides.get(slide);
        int old = boxes[2 * box];
        boxes[2 * box] = show;
        boxes[2 * box + 1] = step;
        return old;
    }

    public int show(int person, int part, int first, int last) {
        index(in(person, 0, 3) && (is(part, 0) || is(part, 1)));
        boolean text = is(part, 1);
        if (text) {
            index(in(first, 0, row(part).size() - 1) && in(last, first, row(part).size() - 1));
        } else {
            index(in(first, 0, 11) && in(last, 0, 11));
        }
        right(may(person, part, 1));
        state(shows.size() < 10);
        About a = new About();
        a.part = part;
        a.first = first;
        a.last = last;
        if (text) {
            a.tokens = new ArrayList<>(row(part).subList(first, last + 1));
        }
        shows.add(a);
        return shows.size() - 1;
    }

    public boolean freeze(int person, int show) {
        index(in(person, 0, 3) && in(show, 0, shows.size() - 1));
        About a = shows.get(show);
        right(may(person, a.part, 1));
        if (!a.frozen) {
            a.still = text(-1, show, true);
        }
        a.frozen = !a.frozen;
        return a.frozen;
    }

    private String cellText(Found found, int part, int cell) {
        Object v = found.at(part, cell);
        return v == null ? "" : v instanceof Long ? v.toString() : "!";
    }

    /** What a show shows; the person -1 has all rights. */
    private String text(int person, int show, boolean outermost) {
        About a = shows.get(show);
        if (person >= 0 && !may(person, a.part, 1)) {
            return "#";
        }
        if (a.frozen) {
            return a.still;
        }
        StringBuilder b = new StringBuilder("<");
        if (is(a.part, 0)) {
            Found found = new Found();
            String between = "";
            for (int i = 0; i < 12; i++) {
                if (inRange(i, a.first, a.last)) {
                    b.append(between).append(cellText(found, a.part, i));
                    between = ",";
                }
            }
        } else {
            for (Token t : a.tokens) {
                b.append(tokenText(person, t.sign, outermost));
            }
        }
        b.append('>');
        return b.length() > 80 ? b.substring(0, 80) : b.toString();
    }

    private String tokenText(int person, int sign, boolean outermost) {
        if (sign < 26) {
            return "" + (char) ('a' + sign);
        }
        if (sign < 200) {
            return "/";
        }
        return outermost ? text(person, sign - 200, false) : "@";
    }

    public int shown(int person, int show) {
        index(in(person, 0, 3) && in(show, 0, shows.size() - 1));
        return text(person, show, true).length();
    }

    public char shownAt(int person, int show, int index) {
        index(in(person, 0, 3) && in(show, 0, shows.size() - 1));
        String t = text(person, show, true);
        index(in(index, 0, t.length() - 1));
        return t.charAt(index);
    }

    public int redrawn() {
        int n = 0;
        for (int i = 0; i < shows.size(); i++) {
            String t = text(-1, i, true);
            n += t.equals(shows.get(i).asked) ? 0 : 1;
            shows.get(i).asked = t;
        }
        return n;
    }

    private String flatText(int person, int part, int step) {
        StringBuilder b = new StringBuilder();
        Piece p = parts.get(part);
        if (p.kind == 0) {
            Found found = new Found();
            for (int i = 0; i < 12; i++) {
                b.append(i == 0 ? "" : i % 3 == 0 ? ";" : ",").append(cellText(found, part, i));
            }
        } else if (p.kind == 1) {
            List<Token> row = row(part);
            for (int i = 0; i < row.size(); i++) {
                int sign = row.get(i).sign;
                b.append(in(sign, 100, 103) ? "." + blockOf(row, i) + " " : tokenText(person, sign, true));
            }
        } else {
            for (int[] slide : p.slides) {
                b.append('=');
                for (int i = 0; i < 6; i += 2) {
                    int[] from = slide[i] < 0 ? p.master : slide;
                    if (from[i] >= 0 && from[i + 1] <= step) {
                        b.append(text(person, from[i], true));
                    }
                }
            }
        }
        return b.toString();
    }

    public int flat(int person, int part, int step) {
        index(in(person, 0, 3) && in(part, 0, parts.size() - 1));
        argument(in(step, 0, 3));
        right(may(person, part, 1));
        return flatText(person, part, step).length();
    }

    public char flatAt(int person, int part, int step, int index) {
        index(in(person, 0, 3) && in(part, 0, parts.size() - 1));
        argument(in(step, 0, 3));
        right(may(person, part, 1));
        String t = flatText(person, part, step);
        index(in(index, 0, t.length() - 1));
        return t.charAt(index);
    }

    public int takeIn(int person, int part, int text) {
        index(in(person, 0, 3) && in(part, 0, parts.size() - 1) && is(text, 1));
        right(may(person, part, 1) && may(person, text, 3));
        Reference old = copy();
        try {
            sendAll(text, person);
            String t = flatText(person, part, 3);
            for (int i = row(text).size() - 1; i >= 0; i--) {
                make(text, person, 't', i, -1);
            }
            int n = 0;
            for (char c : t.toCharArray()) {
                int sign = in(c, 'a', 'z') ? c - 'a' : ".;=".indexOf(c) >= 0 ? 102 : -1;
                if (sign >= 0 && n < 40) {
                    make(text, person, 'p', n++, sign);
                }
            }
            return n;
        } catch (IllegalStateException e) {
            restore(old);
            throw e;
        }
    }

    public int change(int person, int letter, int ahead, int to) {
        index(in(person, 0, 3));
        argument(in(letter, 0, 25) && in(ahead, -1, 25) && in(to, 0, 25));
        Reference old = copy();
        int n = 0;
        try {
            for (int part = 0; part < parts.size(); part++) {
                if (is(part, 1) && may(person, part, 3)) {
                    sendAll(part, person);
                    List<Token> row = row(part);
                    for (int i = row.size() - 2; i >= 0; i--) {
                        int behind = row.get(i + 1).sign;
                        if (row.get(i).sign == letter && (behind == ahead || ahead == -1 && behind < 26)) {
                            make(part, person, 't', i, -1);
                            make(part, person, 'p', i, to);
                            n++;
                        }
                    }
                }
            }
            return n;
        } catch (IllegalStateException e) {
            restore(old);
            throw e;
        }
    }

    public int version() {
        state(versions.size() < 5);
        versions.add(copy().parts);
        return versions.size() - 1;
    }

    private static List<String> blocks(Piece p) {
        List<String> blocks = new ArrayList<>();
        String block = null;
        for (Token t : replay(p.log, p.log.size(), new ArrayList<>())) {
            if (in(t.sign, 100, 103)) {
                if (block != null) {
                    blocks.add(block);
                }
                block = t.sign + ":";
            } else {
                block = (block == null ? "102:" : block) + t.sign + ",";
            }
        }
        if (block != null) {
            blocks.add(block);
        }
        return blocks;
    }

    public int difference(int one, int other, int part) {
        index(in(one, 0, versions.size() - 1) && in(other, 0, versions.size() - 1) && in(part, 0, parts.size() - 1));
        if (part >= versions.get(one).size() || part >= versions.get(other).size()) {
            return 0;
        }
        Piece a = versions.get(one).get(part);
        Piece b = versions.get(other).get(part);
        int n = 0;
        if (a.kind == 0) {
            for (int i = 0; i < 12; i++) {
                n += a.cells[i].equals(b.cells[i]) ? 0 : 1;
            }
        } else if (a.kind == 1) {
            List<String> left = blocks(a);
            List<String> right = blocks(b);
            for (String s : blocks(a)) {
                if (right.remove(s)) {
                    left.remove(s);
                }
            }
            n = left.size() + right.size();
        } else {
            n = Arrays.equals(a.master, b.master) ? 0 : 1;
            for (int i = 0; i < Math.max(a.slides.size(), b.slides.size()); i++) {
                boolean both = i < a.slides.size() && i < b.slides.size();
                n += both && Arrays.equals(a.slides.get(i), b.slides.get(i)) ? 0 : 1;
            }
        }
        return n;
    }

    public int line(int kind, int number) {
        argument(in(kind, 0, 5));
        int[] least = {-99, -99, 0, 0, 0, 0};
        int[] most = {99, 99, 11, 25, 9, 9};
        argument(in(number, least[kind], most[kind]));
        state(lines.size() < 8);
        lines.add(new int[] {kind, number});
        return lines.size();
    }

    public int wipe() {
        int n = lines.size();
        lines.clear();
        return n;
    }

    public int run(int person, int sheet, int text) {
        index(in(person, 0, 3) && is(sheet, 0) && is(text, 1));
        right(may(person, sheet, 3) && may(person, text, 3));
        Reference old = copy();
        try {
            return runLines(person, sheet, text);
        } catch (IllegalStateException e) {
            restore(old);
            throw e;
        }
    }

    private int runLines(int person, int sheet, int text) {
        String[] cells = parts.get(sheet).cells;
        int cell = 0;
        int count = 0;
        int steps = 0;
        int at = 0;
        while (at < lines.size() && steps < 30) {
            int n = lines.get(at)[1];
            switch (lines.get(at)[0]) {
                case 0:
                    cells[cell] = "" + n;
                    break;
                case 1:
                    if (cells[cell].contains(" ")) {
                        return steps;
                    }
                    int sum = n + (cells[cell].isEmpty() ? 0 : Integer.parseInt(cells[cell]));
                    if (Math.abs(sum) > 1000) {
                        return steps;
                    }
                    cells[cell] = "" + sum;
                    break;
                case 2:
                    cell = (cell + n) % 12;
                    break;
                case 3:
                    sendAll(text, person);
                    if (row(text).size() >= 40) {
                        return steps;
                    }
                    make(text, person, 'p', row(text).size(), n);
                    break;
                case 4:
                    count = n;
                    break;
                default:
                    if (count > 0) {
                        count--;
                        at = Math.max(0, at - n) - 1;
                    }
            }
            at++;
            steps++;
        }
        return steps;
    }
}
