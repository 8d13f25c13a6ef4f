/** Promises 13 to 18: what is at hand, what is told of it, what is written. */
public final class ValueTest {
    private static final int BAD = -1, NONE = -5;

    private static void downAndTop() {
        NestSheet x = new Sheet().with("A0=[1 [2.5 'c] []]", "A1=a3 1 0", "A2=5").x;
        Due.is("down in a new value", x.down(0), BAD);
        x.ask(0);
        Due.is("down", x.down(-1), BAD);
        Due.is("down", x.down(3), BAD);
        Due.is("down", x.down(Integer.MAX_VALUE), BAD);
        Due.is("down", x.down(Integer.MIN_VALUE), BAD);
        Due.is("a refused down changes nothing", x.told(1), 3);
        Due.is("down to a whole", x.down(0), 0);
        Due.is("down to a whole", x.number(), 1);
        Due.is("down in a leaf", x.down(0), BAD);
        Due.is("top", x.top(), 3);
        Due.is("top", x.told(1), 3);
        Due.is("down to an array", x.down(1), 3);
        Due.is("down to a sign", x.down(1), 2);
        Due.is("top", x.top(), 3);
        x.down(1);
        Due.is("down to a real", x.down(0), 1);
        Due.is("top again", x.top(), 3);
        Due.is("down to an empty array", x.down(2), 3);
        Due.is("down in an empty array", x.down(0), BAD);
        x.ask(2);
        Due.is("a new value is at hand itself", x.number(), 5);
        x.ask(1);
        Due.is("down in a failure", x.down(0), BAD);
        Due.is("top of a failure", x.top(), 4);
        x.ask(0);
        x.down(1);
        x.ask(99);
        Due.is("a refused ask changes nothing", x.told(1), 2);
        Due.is("a refused ask changes nothing", x.told(3), 1);
        Due.is("a change leaves the value", x.clear(0), 15);
        Due.is("a change leaves the value", x.told(1), 2);
        Due.is("a change leaves the value", x.top(), 3);
        Due.is("a change leaves the value", x.told(1), 3);
    }

    private static void told(String formula, int... due) {
        Sheet sheet = new Sheet().with("A0=" + formula);
        sheet.x.ask(0);
        for (int what = 0; what < 8; what++) {
            Due.is("told(" + what + ") of " + formula, sheet.x.told(what), due[what]);
        }
        Due.is("told(-1)", sheet.x.told(-1), BAD);
        Due.is("told(8)", sheet.x.told(8), BAD);
    }

    private static void told() {
        told("7", 0, NONE, 1, 0, NONE, NONE, NONE, NONE);
        told("7.5", 1, NONE, 1, 0, NONE, NONE, NONE, NONE);
        told("'~", 2, NONE, 1, 0, NONE, NONE, NONE, 126);
        told("' ", 2, NONE, 1, 0, NONE, NONE, NONE, 32);
        told("[]", 3, 0, 1, 1, NONE, NONE, NONE, NONE);
        told("[1 [2 []] 3]", 3, 3, 6, 3, NONE, NONE, NONE, NONE);
        told("[1 a3 1 0]", 4, NONE, NONE, NONE, 3, 0, 3, NONE);
        told("A0", 4, NONE, NONE, NONE, 6, 0, 0, NONE);
        Sheet sheet = new Sheet().with("A0=[1 D7]", "D7= a0 'a 1");
        Due.is("another cell's failure", sheet.ask("A0"), "!1@D7:1");
        Due.is("another cell's failure", sheet.x.told(5), 31);
        Sheet young = new Sheet();
        Due.is("told before any ask", young.x.told(0), 3);
        Due.is("told before any ask", young.x.told(1), 0);
        Due.is("told before any ask", young.x.told(2), 1);
        Due.is("told before any ask", young.x.told(3), 1);
        Due.is("told before any ask", young.x.told(4), NONE);
    }

    private static void number(String formula, long due) {
        Sheet sheet = new Sheet().with("A0=" + formula);
        sheet.x.ask(0);
        Due.is("number() of " + formula, sheet.x.number(), due);
    }

    private static void number() {
        number("12", 12);
        number("n0 12", -12);
        number("1.0", 0x3ff0000000000000L);
        number("n0 0.0", 0x8000000000000000L);
        number("a3 0.0 0.0", 0x7ff8000000000000L);
        number("n0 a3 0.0 0.0", 0x7ff8000000000000L);
        number("n1 n0 a3 0.0 0.0", 0x7ff8000000000000L);
        number("a3 n0 1.0 0", 0xfff0000000000000L);
        number("'a", 0);
        number("[5]", 0);
        number("a3 1 0", 0);
        Due.is("number() before any ask", new NestSheet().number(), 0);
    }

    private static void print(String formula, String due) {
        Sheet sheet = new Sheet().with("A0=" + formula);
        sheet.x.ask(0);
        Due.is("print() of " + formula, sheet.x.print(), due.length());
        for (int i = 0; i < due.length(); i++) {
            Due.is("out(" + i + ") of " + formula, sheet.x.out(i), due.charAt(i));
        }
        Due.is("behind " + formula, sheet.x.out(due.length()), NONE);
        Due.is("ahead of " + formula, sheet.x.out(-1), NONE);
        Due.is("far behind " + formula, sheet.x.out(Integer.MAX_VALUE), NONE);
        Due.is("far ahead of " + formula, sheet.x.out(Integer.MIN_VALUE), NONE);
    }

    private static void print() {
        print("0", "0");
        print("007", "7");
        print("n0 10", "-10");
        print("a2 n0 2147483648 4294967296", "-9223372036854775808");
        print("a1 a2 n0 2147483648 4294967296 1", "9223372036854775807");
        print("1.5", "#3ff8000000000000");
        print("n0 0.0", "#8000000000000000");
        print("a3 0 0.0", "#7ff8000000000000");
        print("0.1", "#3fb999999999999a");
        print("12345678901234.5", "#42a674e79c5fe500");
        print("'a", "'a");
        print("' ", "' ");
        print("'[", "'[");
        print("[]", "[]");
        print("[1]", "[1]");
        print("[1 [] ['a 2.0]]", "[1 [] ['a #4000000000000000]]");
        print("a3 1 0", "!3");
        print("A0", "!6");
        NestSheet x = new Sheet().with("A0=[1 22]").x;
        Due.is("print before any ask", x.print(), 2);
        Due.is("print before any ask", x.out(0), '[');
        x.ask(0);
        Due.is("out stays until print", x.out(1), ']');
        x.down(1);
        Due.is("print of what is at hand", x.print(), 2);
        Due.is("print of what is at hand", x.out(0), '2');
        Due.is("only the latest print", x.out(2), NONE);
        x.top();
        Due.is("print of the top", x.print(), 6);
        Due.is("print of the top", x.out(5), ']');
    }

    /** The longest that can be written: 199 values in an array, each as long as may be. */
    private static void longest() {
        Sheet sheet = new Sheet().with("A0=a2 n0 2147483648 4294967296", "A1=r1 32 A0", "A2=[r1 5 A1 r1 27 A0]",
            "A3=[A1 A1 A1 A1 A1 i1 A1 27 A0 A0 A0 A0 A0 A0]");
        Due.is("ask", sheet.x.ask(2), 3);
        Due.is("in", sheet.x.told(2), 1 + 166 + 28);
        Due.is("ask", sheet.x.ask(3), 3);
        Due.is("in", sheet.x.told(2), 1 + 5 * 33 + 28 + 6);
        int one = 20;
        int row = 2 + 32 * one + 31;
        Due.is("print", sheet.x.print(), 2 + 11 + 5 * row + (2 + 27 * one + 26) + 6 * one);
    }

    public static void main(String[] args) {
        downAndTop();
        told();
        number();
        print();
        longest();
        Due.end("ValueTest");
    }
}
