import java.lang.reflect.InvocationTargetException;
import java.lang.reflect.Method;
import java.lang.reflect.Modifier;
import java.util.ArrayList;
import java.util.HashMap;
import java.util.List;
import java.util.Map;

/**
 * One object and the calls on it, written down as rows: "put 0 1 0 25 = 1" is answered so, "put 0 1 0 26 ! argument" is
 * refused with that exception and changes nothing, and "give 0 1 2 3" is neither looked at. "{-1,4}" and "{0..3}" stand
 * for each of these in turn, MIN and MAX for the ends of the int. Some words of its own tell more in one row (see told).
 */
final class Script {
    private static final Map<String, Method> FACE = new HashMap<>();

    static {
        for (Method m : Notebookspire.class.getDeclaredMethods()) {
            if (Modifier.isPublic(m.getModifiers())) {
                FACE.put(m.getName(), m);
            }
        }
    }

    private final String about;
    private final Notebookspire x = new Notebookspire();
    /** The calls that were not refused, to be done again on another object. */
    private final List<String> done = new ArrayList<>();
    private String known;

    Script(String about, String... rows) {
        this.about = about;
        on(rows);
    }

    Script on(String... rows) {
        for (String row : rows) {
            for (String one : spread(row)) {
                step(one);
            }
        }
        return this;
    }

    /** The same for each of some levels or numbers that are told as %d. */
    Script each(int least, int most, String... rows) {
        for (int i = least; i <= most; i++) {
            for (String row : rows) {
                on(row.replace("%d", Integer.toString(i)));
            }
        }
        return this;
    }

    private void step(String row) {
        int refusal = row.indexOf(" ! ");
        int answer = row.indexOf(" = ");
        if (refusal >= 0) {
            String call = row.substring(0, refusal);
            Check.due(about + ": " + call, told(x, call), row.substring(refusal + 3) + " exception");
            String after = whole(call);
            Check.due(about + ": " + call + " changes nothing", after.equals(whole(null)), true);
        } else {
            String call = answer >= 0 ? row.substring(0, answer) : row;
            String got = told(x, call);
            if (answer >= 0) {
                Check.due(about + ": " + call, got, row.substring(answer + 3));
            } else {
                Check.due(about + ": " + call + " is not refused", got.endsWith("xception") ? got : "", "");
            }
            done.add(call);
            known = null;
        }
    }

    /** All that an object answers behind the calls that were not refused, and one more. */
    private String whole(String more) {
        if (more == null && known != null) {
            return known;
        }
        if (more != null) {
            return Probe.all(() -> again(more));
        }
        known = Probe.all(() -> again("length 0"));
        return known;
    }

    /** Another object, behind the calls that were not refused and one more. */
    private Notebookspire again(String more) {
        Notebookspire y = new Notebookspire();
        for (String call : done) {
            told(y, call);
        }
        told(y, more);
        return y;
    }

    /** A row for each way to take one of what stands in braces. */
    static List<String> spread(String row) {
        List<String> all = new ArrayList<>();
        int from = row.indexOf('{');
        if (from < 0) {
            all.add(row);
            return all;
        }
        int to = row.indexOf('}', from);
        for (String one : row.substring(from + 1, to).split(",")) {
            int dots = one.indexOf("..");
            int least = dots < 0 ? 0 : Integer.parseInt(one.substring(0, dots));
            int most = dots < 0 ? 0 : Integer.parseInt(one.substring(dots + 2));
            for (int i = least; i <= most; i++) {
                all.addAll(spread(row.substring(0, from) + (dots < 0 ? one : Integer.toString(i)) + row.substring(to + 1)));
            }
        }
        return all;
    }

    private static int number(String word) {
        return word.equals("MIN") ? Integer.MIN_VALUE : word.equals("MAX") ? Integer.MAX_VALUE : Integer.parseInt(word);
    }

    /** What a call, or one of these words, answers: "nothing" if it is void. */
    static String told(Notebookspire x, String call) {
        String[] words = call.split(" ", -1);
        try {
            switch (words[0]) {
                case "write":
                    Check.write(x, number(words[1]), number(words[2]), words[3]);
                    return "nothing";
                case "fill":
                    fill(x, number(words[1]), number(words[2]), number(words[3]), number(words[4]));
                    return "nothing";
                case "row":
                    return Check.row(x, number(words[1]));
                case "rowByLog":
                    return Check.rowByLog(x, number(words[1]));
                case "viewed":
                    return Check.view(x, number(words[1]), number(words[2]));
                case "drawn":
                    return Check.shown(x, number(words[1]), number(words[2]));
                case "flatText":
                    return Check.flat(x, number(words[1]), number(words[2]), number(words[3]));
                default:
                    return face(x, words);
            }
        } catch (IndexOutOfBoundsException e) {
            return "index exception";
        } catch (IllegalArgumentException e) {
            return "argument exception";
        } catch (UnsupportedOperationException e) {
            return "right exception";
        } catch (IllegalStateException e) {
            return "state exception";
        }
    }

    private static String face(Notebookspire x, String[] words) {
        Method m = FACE.get(words[0]);
        Class<?>[] kinds = m.getParameterTypes();
        if (kinds.length != words.length - 1) {
            throw new AssertionError(String.join(" ", words));
        }
        Object[] arguments = new Object[kinds.length];
        for (int i = 0; i < kinds.length; i++) {
            if (kinds[i] == boolean.class) {
                arguments[i] = words[i + 1].equals("blank");
            } else {
                arguments[i] = number(words[i + 1]);
            }
        }
        try {
            Object got = m.invoke(x, arguments);
            return got == null ? "nothing" : got.toString();
        } catch (InvocationTargetException e) {
            if (e.getCause() instanceof RuntimeException) {
                Class<?> thrown = e.getCause().getClass();
                if (thrown == IndexOutOfBoundsException.class || thrown == IllegalArgumentException.class
                        || thrown == UnsupportedOperationException.class || thrown == IllegalStateException.class) {
                    throw (RuntimeException) e.getCause();
                }
                return thrown.getName();
            }
            throw new AssertionError(e.getCause());
        } catch (IllegalAccessException e) {
            throw new AssertionError(e);
        }
    }

    /** Makes the log so long, with the same row as before: two persons with EDIT, and no own edits. */
    private static void fill(Notebookspire x, int person, int helper, int part, int edits) {
        x.send(person, part);
        x.send(helper, part);
        boolean isFull = x.length(part) == 40;
        int place = isFull ? 39 : x.length(part);
        int token = isFull ? x.token(part, 39) : 25;
        while (x.log(part) < edits) {
            boolean needsVoid = (edits - x.log(part)) % 2 != 0;
            if (!isFull) {
                x.put(person, part, place, token);
            }
            if (needsVoid) {
                x.send(person, part);
                x.send(helper, part);
                x.out(helper, part, place);
            }
            x.out(person, part, place);
            if (isFull) {
                x.put(person, part, place, token);
            }
            for (int i = 0; i < 2 && !needsVoid && x.log(part) + 4 + 2 * i <= edits; i++) {
                pair(x, person, part, place, token, isFull);
            }
            x.send(person, part);
            if (needsVoid) {
                x.send(helper, part);
            }
        }
        x.send(helper, part);
    }

    private static void pair(Notebookspire x, int person, int part, int place, int token, boolean isFull) {
        if (isFull) {
            x.out(person, part, place);
            x.put(person, part, place, token);
        } else {
            x.put(person, part, place, token);
            x.out(person, part, place);
        }
    }
}
