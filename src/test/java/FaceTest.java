import java.lang.reflect.Constructor;
import java.lang.reflect.Field;
import java.lang.reflect.Member;
import java.lang.reflect.Method;
import java.lang.reflect.Modifier;
import java.util.ArrayList;
import java.util.Collections;
import java.util.List;

/** The face of the class: the document's constants, constructor and methods, with their throws clauses, and no others. */
public final class FaceTest {
    private static final String[] CONSTANTS = {"NONE -1", "SHEET 0", "TEXT 1", "DECK 2", "NOTHING 0", "SEE 1", "NOTE 2",
        "EDIT 3", "PLUS 0", "MINUS 1", "TIMES 2", "SUM 3", "LIST 4", "OVER 1", "BLOCKED 2", "HIDDEN 3", "HEAD 0", "SUB 1",
        "BODY 2", "REMARK 3", "WRITE 0", "ADD 1", "MOVE 2", "TYPE 3", "COUNT 4", "BACK 5"};

    /** I, A, U and S stand for the exceptions, in their order. */
    private static final String[] METHODS = {"int make(int,int) IAS", "int give(int,int,int,int) IAU", "int right(int,int) I",
        "void set(int,int,int,boolean,int) IAU", "void formula(int,int,int,int,int,int,int,int) IAU",
        "int what(int,int,int) IU", "int value(int,int,int) IU", "int valueAnew(int,int,int) IU", "int rounds() ",
        "int put(int,int,int,int) IAUS", "int out(int,int,int) IUS", "int see(int,int) IU", "int send(int,int) IUS",
        "boolean undo(int,int) IUS", "int view(int,int) IU", "int viewAt(int,int,int) IU", "int length(int) I",
        "int token(int,int) I", "int tokenByLog(int,int) I", "int log(int) I", "int block(int,int) I",
        "int setSize(int,int,int,int) IAU", "int size(int,int) IA", "int model(int,int,int) IUS",
        "int comment(int,int,int,int,int) IAUS", "int about(int) I", "boolean close(int,int) IU", "int take(int,int) IUS",
        "int slide(int,int,int) IUS", "int drop(int,int,int) IU", "int box(int,int,int,int,int,int) IAU",
        "int show(int,int,int,int) IUS", "boolean freeze(int,int) IU", "int shown(int,int) I", "char shownAt(int,int,int) I",
        "int redrawn() ", "int flat(int,int,int) IAU", "char flatAt(int,int,int,int) IAU", "int takeIn(int,int,int) IUS",
        "int change(int,int,int,int) IAS", "int version() S", "int difference(int,int,int) I", "int line(int,int) AS",
        "int wipe() ", "int run(int,int,int) IUS"};

    public static void main(String[] args) throws Exception {
        int modifiers = Notebookspire.class.getModifiers();
        Check.due("the class is public and final", Modifier.isPublic(modifiers) && Modifier.isFinal(modifiers), true);
        constants();
        methods();
        Constructor<?>[] constructors = Notebookspire.class.getDeclaredConstructors();
        Check.due("constructors", constructors.length, 1);
        Check.due("it takes nothing", constructors[0].getParameterCount(), 0);
        hidden(constructors[0], true);
        Check.end("FaceTest");
    }

    private static void constants() throws Exception {
        List<String> found = new ArrayList<>();
        for (Field f : Notebookspire.class.getDeclaredFields()) {
            if (Modifier.isPublic(f.getModifiers())) {
                Check.due(f.getName(), Modifier.toString(f.getModifiers()) + " " + f.getType(), "public static final int");
                found.add(f.getName() + " " + f.getInt(null));
            }
            hidden(f, Modifier.isPublic(f.getModifiers()));
        }
        same("constants", found, CONSTANTS);
    }

    private static void methods() {
        List<String> found = new ArrayList<>();
        for (Method m : Notebookspire.class.getDeclaredMethods()) {
            if (Modifier.isPublic(m.getModifiers())) {
                Check.due(m.getName(), Modifier.toString(m.getModifiers()), "public");
                StringBuilder b = new StringBuilder();
                for (Class<?> c : m.getParameterTypes()) {
                    b.append(b.length() == 0 ? "" : ",").append(c.getName());
                }
                b.insert(0, m.getReturnType().getName() + " " + m.getName() + "(").append(") ");
                for (Class<?> c : m.getExceptionTypes()) {
                    b.append(letter(c));
                }
                found.add(b.toString());
            }
            hidden(m, Modifier.isPublic(m.getModifiers()));
        }
        same("methods", found, METHODS);
    }

    private static char letter(Class<?> c) {
        return c == IndexOutOfBoundsException.class ? 'I' : c == IllegalArgumentException.class ? 'A'
            : c == UnsupportedOperationException.class ? 'U' : c == IllegalStateException.class ? 'S' : '?';
    }

    /** A member is public or private. */
    private static void hidden(Member m, boolean isPublic) {
        if (!m.isSynthetic()) {
            Check.due(m.getName() + " is hidden", isPublic || Modifier.isPrivate(m.getModifiers()), true);
        }
    }

    private static void same(String what, List<String> found, String[] want) {
        List<String> due = new ArrayList<>(List.of(want));
        Collections.sort(due);
        Collections.sort(found);
        Check.due(what, found.toString(), due.toString());
    }
}
