import java.util.function.IntSupplier;
import java.util.function.Supplier;

/**
 * All that an object answers, told as one text: what can be asked at first, then calls that change it too, in one fixed
 * order, so that two objects with other own edits, logs, suggestions, frozen shows, lines and counts answer otherwise.
 */
final class Probe {
    private static final int PARTS = 6, PERSONS = 4, SHOWS = 10, COMMENTS = 12;

    private final Notebookspire x;
    private final StringBuilder all = new StringBuilder();

    private Probe(Notebookspire x) {
        this.x = x;
    }

    /** What objects that are made alike answer, one of them after the other. */
    static String all(Supplier<Notebookspire> made) {
        StringBuilder b = new StringBuilder(all(made.get()));
        suggestions(made, b);
        steps(made, b);
        return b.toString();
    }

    /** Each comment is taken on an object of its own, as taking it closes others. */
    private static void suggestions(Supplier<Notebookspire> made, StringBuilder b) {
        for (int comment = 0; comment < COMMENTS; comment++) {
            int c = comment;
            Probe p = new Probe(made.get());
            if (p.say(() -> p.x.about(c)) == -1001) {
                return;
            }
            p.rights();
            p.say(() -> p.x.take(0, c));
            for (int part = 0; part < PARTS; part++) {
                int q = part;
                if (p.say(() -> p.x.length(q)) >= 0) {
                    p.all.append(Check.row(p.x, q));
                }
            }
            b.append(p.all);
        }
    }

    /** The step of a box that holds nothing shows in the differences of versions alone, of which there are five. */
    private static void steps(Supplier<Notebookspire> made, StringBuilder b) {
        for (int part = 0; part < PARTS; part++) {
            boolean isThere = true;
            for (int at = 0; at < 21 && isThere; at++) {
                Probe p = new Probe(made.get());
                isThere = p.stepsOf(part, at / 3 - 1, at % 3);
                b.append(p.all);
            }
        }
    }

    private boolean stepsOf(int part, int slide, int box) {
        rights();
        int first = say(x::version);
        for (int step = 0; step < 3; step++) {
            int t = step;
            if (say(() -> x.box(0, part, slide, box, -1, t)) == -1001) {
                return false;
            }
            int now = say(x::version);
            say(() -> x.difference(first, now, part));
        }
        return true;
    }

    static String all(Notebookspire x) {
        Probe p = new Probe(x);
        p.all.append(Check.look(x));
        p.say(x::redrawn);
        p.rights();
        p.boxes();
        p.sight();
        p.shows();
        p.macro();
        p.comments();
        p.undoes();
        p.counts();
        p.all.append(Check.look(x));
        return p.all.toString();
    }

    private int say(IntSupplier call) {
        int got;
        try {
            got = call.getAsInt();
        } catch (IndexOutOfBoundsException e) {
            got = -1001;
        } catch (IllegalArgumentException e) {
            got = -1002;
        } catch (UnsupportedOperationException e) {
            got = -1003;
        } catch (IllegalStateException e) {
            got = -1004;
        }
        all.append(' ').append(got);
        return got;
    }

    /** The boxes as they are are held against what they are when all hold nothing. */
    private void boxes() {
        int before = say(x::version);
        for (int part = 0; part < PARTS; part++) {
            int p = part;
            for (int slide = -1; slide < 6; slide++) {
                int s = slide;
                for (int box = 0; box < 3; box++) {
                    int b = box;
                    say(() -> x.box(0, p, s, b, -1, 0));
                }
            }
        }
        int after = say(x::version);
        for (int part = 0; part < PARTS; part++) {
            int p = part;
            say(() -> x.difference(before, after, p));
        }
    }

    private void rights() {
        for (int part = 0; part < PARTS; part++) {
            int p = part;
            for (int who = 0; who < PERSONS; who++) {
                int w = who;
                for (int other = 0; other < PERSONS; other++) {
                    int o = other;
                    say(() -> x.give(w, p, o, Notebookspire.EDIT));
                }
            }
        }
    }

    /** Each person sees the logs edit by edit. */
    private void sight() {
        for (int part = 0; part < PARTS; part++) {
            int p = part;
            if (say(() -> x.length(p)) < 0) {
                continue;
            }
            say(() -> x.model(0, p, -1));
            for (int i = 0; i < 4; i++) {
                int sort = i;
                say(() -> x.setSize(0, p, sort, 0));
            }
            for (int i = 0; i < PERSONS; i++) {
                int who = i;
                int left = 1;
                for (int j = 0; j < 320 && left > 0; j++) {
                    left = say(() -> x.see(who, p));
                    if (j < 3) {
                        all.append(Check.view(x, who, p));
                    }
                }
                all.append(Check.view(x, who, p));
                say(() -> x.put(who, p, x.view(who, p), 0));
                say(() -> x.out(who, p, x.view(who, p) - 1));
            }
        }
    }

    private void shows() {
        for (int show = 0; show < SHOWS; show++) {
            int s = show;
            if (say(() -> x.freeze(0, s) ? 1 : 0) >= 0) {
                all.append(Check.shown(x, 0, s));
                say(() -> x.freeze(0, s) ? 1 : 0);
                all.append(Check.shown(x, 0, s));
            }
        }
    }

    private void macro() {
        say(() -> x.make(0, Notebookspire.SHEET));
        say(() -> x.make(0, Notebookspire.TEXT));
        run();
        say(() -> x.line(Notebookspire.ADD, 1));
        say(() -> x.line(Notebookspire.BACK, 1));
        run();
        say(x::wipe);
        say(() -> x.line(0, 0));
    }

    /** On the first SHEET and TEXT there are. */
    private void run() {
        for (int part = 0; part < PARTS * PARTS; part++) {
            int p = part;
            if (say(() -> x.run(0, p / PARTS, p % PARTS)) >= 0) {
                all.append(Check.cells(x, 0, p / PARTS)).append(Check.row(x, p % PARTS));
                return;
            }
        }
    }

    private void comments() {
        for (int comment = 0; comment < COMMENTS; comment++) {
            int c = comment;
            for (int person = 0; person < PERSONS; person++) {
                int who = person;
                say(() -> x.take(who, c));
            }
            say(() -> x.about(c));
        }
    }

    private void undoes() {
        for (int part = 0; part < PARTS; part++) {
            int p = part;
            for (int person = 0; person < PERSONS; person++) {
                int who = person;
                int got = 0;
                for (int i = 0; i < 40 && got >= 0; i++) {
                    got = say(() -> x.undo(who, p) ? 1 : 0);
                }
            }
            say(() -> x.log(p));
        }
    }

    /** How many more of each there may be. */
    private void counts() {
        for (int i = 0; i < 7; i++) {
            say(() -> x.make(0, Notebookspire.TEXT));
            say(x::version);
        }
        for (int i = 0; i < 13; i++) {
            for (int part = 0; part < PARTS; part++) {
                int p = part;
                say(() -> x.show(0, p, 0, 0));
                say(() -> x.comment(0, p, 0, 0, -1));
                say(() -> x.slide(0, p, 0));
            }
        }
    }
}
