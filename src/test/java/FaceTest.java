import java.io.IOException;
import java.lang.reflect.Constructor;
import java.lang.reflect.Field;
import java.lang.reflect.Member;
import java.lang.reflect.Method;
import java.lang.reflect.Modifier;
import java.nio.file.Files;
import java.nio.file.Path;
import java.util.Arrays;
import java.util.StringJoiner;
import java.util.TreeSet;

/** "What it is" and "The public face": the members, as the document writes them, and a use of 512 calls. */
public final class FaceTest {
    private static final String[] DUE = {
        "public static final int BAD = -1", "public static final int STATE = -2", "public static final int FULL = -3",
        "public static final int NONE = -5", "public NestSheet()", "public int type(long, int)",
        "public int enter(int)", "public int clear(int)", "public int formula(int, int)", "public int undo()",
        "public int redo()", "public int needs(int, int)", "public int stale()", "public int worked(int)",
        "public int ask(int)", "public int steps(int)", "public int down(int)", "public int top()",
        "public int told(int)", "public long number()", "public int print()", "public int out(int)"};

    private static boolean hidden(Member one) {
        return Modifier.isPrivate(one.getModifiers()) || one.isSynthetic();
    }

    private static String types(Class<?>[] all) {
        StringJoiner text = new StringJoiner(", ", "(", ")");
        for (Class<?> one : all) {
            text.add(one.getSimpleName());
        }
        return text.toString();
    }

    /** "public final class NestSheet {" and all that is public in it, and nothing else that is not private */
    private static void members() throws IllegalAccessException {
        TreeSet<String> got = new TreeSet<>();
        for (Field one : NestSheet.class.getDeclaredFields()) {
            if (!hidden(one)) {
                got.add(Modifier.toString(one.getModifiers()) + " " + one.getType() + " " + one.getName() + " = "
                    + one.get(null));
            }
        }
        for (Constructor<?> one : NestSheet.class.getDeclaredConstructors()) {
            if (!hidden(one)) {
                got.add(Modifier.toString(one.getModifiers()) + " NestSheet" + types(one.getParameterTypes()));
            }
        }
        for (Method one : NestSheet.class.getDeclaredMethods()) {
            if (!hidden(one)) {
                got.add(Modifier.toString(one.getModifiers()) + " " + one.getReturnType() + " " + one.getName()
                    + types(one.getParameterTypes()));
            }
        }
        TreeSet<String> due = new TreeSet<>(Arrays.asList(DUE));
        for (String each : due) {
            Due.is("a member of the face", got.contains(each) ? each : "missing", each);
        }
        got.removeAll(due);
        Due.is("what else is not private", got.toString(), "[]");
        Due.is("the class", Modifier.toString(NestSheet.class.getModifiers()), "public final");
        Due.is("its package", NestSheet.class.getPackageName(), "");
        Due.is("above it", NestSheet.class.getSuperclass().getName() + NestSheet.class.getInterfaces().length,
            "java.lang.Object0");
    }

    /** "Ahead of the calls .. the interface says: ---- 1 formulas." and likewise of 2 and 3 */
    private static void parts() throws IOException {
        String[] order = {"---- 1 formulas", "type(", "enter(", "clear(", "formula(", "undo(", "redo(", "---- 2 cells",
            "needs(", "stale(", "worked(", "ask(", "steps(", "---- 3 the value", "down(", "top(", "told(", "number(",
            "print(", "out("};
        String text = Files.readString(Path.of("src/main/java/NestSheet.java"));
        int behind = -1;
        for (String each : order) {
            String line = each.startsWith("-") ? "    // " + each + "\n"
                : each.equals("number(") ? "    public long " + each : "    public int " + each;
            int at = text.indexOf(line);
            Due.is("the source has " + line.trim() + " in its place", at > behind ? 1 : 0, 1);
            Due.is("only once", text.indexOf(line, at + 1), -1);
            behind = at;
        }
    }

    /** "An object is used for at most 512 calls": all of them answer, the last as the first */
    private static void calls512() {
        NestSheet x = new NestSheet();
        int calls = 0;
        for (int round = 0; round < 51; round++) {
            long digit = '0' + round % 10;
            Due.is("type", x.type('[' << 8 | digit, 2), 2);
            Due.is("enter of none", x.enter(31), 3);
            Due.is("type", x.type(digit, 1), 1);
            Due.is("enter", x.enter(31), 0);
            Due.is("needs", x.needs(31, 0), 0);
            Due.is("ask", x.ask(31), 0);
            Due.is("number", x.number(), round % 10);
            Due.is("steps", x.steps(1), 2 * (round + 1));
            Due.is("undo", x.undo(), 31);
            Due.is("redo", x.redo(), 31);
            calls += 10;
        }
        Due.is("worked", x.worked(31), 51);
        Due.is("print", x.print(), 1);
        Due.is("so many calls", calls + 2, 512);
    }

    public static void main(String[] args) throws IOException, IllegalAccessException {
        members();
        parts();
        calls512();
        Due.end("FaceTest");
    }
}
