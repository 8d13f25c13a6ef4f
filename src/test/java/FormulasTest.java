/** Promises 1 to 7: a new object, the tape, formulas, changes undone and done again. */
public final class FormulasTest {
    private static final int BAD = -1, STATE = -2, FULL = -3, NONE = -5;
    private static final String NINES = "999999999999999999";

    private static void newObject() {
        Due.is("BAD", NestSheet.BAD, BAD);
        Due.is("STATE", NestSheet.STATE, STATE);
        Due.is("FULL", NestSheet.FULL, FULL);
        Due.is("NONE", NestSheet.NONE, NONE);
        NestSheet x = new NestSheet();
        for (int cell = 0; cell < 32; cell++) {
            Due.is("new: formula", x.formula(cell, -1), 0);
            Due.is("new: formula", x.formula(cell, 0), NONE);
            Due.is("new: worked", x.worked(cell), 0);
            Due.is("new: clear", x.clear(cell), 0);
        }
        Due.is("new: out", x.out(0), NONE);
        Due.is("new: undo", x.undo(), STATE);
        Due.is("new: redo", x.redo(), STATE);
        Due.is("new: stale", x.stale(), 0);
        Due.is("new: steps", x.steps(0), 0);
        Due.is("new: steps", x.steps(1), 0);
        Due.is("new: top", x.top(), 3);
        Due.is("new: count", x.told(1), 0);
        Due.is("new: type", x.type('1', 1), 1);
        Due.is("two objects do not share", new NestSheet().type('1', 1), 1);
    }

    private static void type() {
        NestSheet x = new NestSheet();
        Due.is("type none", x.type('1', 0), BAD);
        Due.is("type below none", x.type('1', -1), BAD);
        Due.is("type 9", x.type(0x3131313131313131L, 9), BAD);
        Due.is("type byte 31", x.type(31, 1), BAD);
        Due.is("type byte 127", x.type(127, 1), BAD);
        Due.is("type byte 128", x.type(128, 1), BAD);
        Due.is("type byte 255", x.type(-1L, 1), BAD);
        Due.is("type byte 0 ahead", x.type('1', 2), BAD);
        Due.is("type bad byte in the middle", x.type(0x311f31, 3), BAD);
        Due.is("type takes the lowest bytes only", x.type(0xffffff0031L, 1), 1);
        Due.is("type 126", x.type(126, 1), 2);
        Due.is("type 32", x.type(32, 1), 3);
        Sheet sheet = new Sheet();
        Due.is("highest byte first", sheet.x.type(0x5b313220335dL, 6), 6);
        Due.is("highest byte first", sheet.x.type(0x2020, 2), 8);
        Due.is("highest byte first", sheet.x.enter(0), 0);
        Due.is("highest byte first", sheet.text(0), "[12 3]  ");
        Sheet full = new Sheet();
        full.type(" ".repeat(72));
        Due.is("9 too many", full.x.type(0x2020202020202020L, 8), 80);
        Due.is("81", full.x.type(' ', 1), FULL);
        Due.is("BAD ahead of FULL", full.x.type(' ', 0), BAD);
        Due.is("BAD ahead of FULL", full.x.type(31, 1), BAD);
        Due.is("80 blanks", full.x.enter(0), 81);
        full.type(" ".repeat(75));
        Due.is("all or nothing", full.x.type(0x202020202020L, 6), FULL);
        Due.is("what was refused did not come", full.x.type(0x2020202037L, 5), 80);
        Due.is("80 bytes", full.x.enter(0), 0);
        Due.is("80 bytes", full.x.formula(0, -1), 80);
    }

    private static void reads(String text) {
        Sheet sheet = new Sheet();
        Due.is("enter " + text, sheet.enter(0, text), 0);
        Due.is("formula of " + text, sheet.text(0), text);
    }

    private static void fails(String text, int place) {
        Sheet sheet = new Sheet().with("A0=7");
        Due.is("enter " + text, sheet.enter(0, text), place + 1);
        Due.is("the cell stays at " + text, sheet.text(0), "7");
        Due.is("the tape is empty behind " + text, sheet.x.type('1', 1), 1);
    }

    private static void enter() {
        for (String text : new String[] {
            "1", "0", "000", NINES, "1.5", "0.0", "1.23456789012345", "12345678901234.5", "'a", "''", "' ", "'[",
            "A0", "D7", "[]", "[ ]", "[1]", "[1 2]", "[1'a'b2.5A0[]]", " [ 1 [ 2 ] ] ", "a0 1 2", "a61 2", "c2'a'b",
            "f0a0 0[1 2]", "f0 a0 0 [1]", "f1c2 1 2", "f2a6[][]", "f3 a1 []", "q0 1 2 3", "q1 1 2", "q2 1",
            "i0[]1", "i1[]1", "i2[]1", "i3[]1", "i4[]1 2", "i5[]1", "r0 1", "r1 1 2", "s5 1 2", "[1 2 3]   "}) {
            reads(text);
        }
        for (int i = 0; i <= 9; i++) {
            reads("s" + i + (i == 5 ? " 1 2" : " 1"));
            if (i <= 7) {
                reads("n" + i + " 1");
            }
            if (i <= 6) {
                reads("a" + i + " 1 2");
                reads("f1 a" + i + " 1 2");
            }
        }
        reads("[".repeat(10) + "1" + "]".repeat(10));
        reads("s6".repeat(10) + "A0");
        reads("f3a0".repeat(9) + "[A0]");
    }

    private static void enterFaults() {
        fails("", 0);
        fails("   ", 3);
        fails("x", 0);
        fails("]", 0);
        fails("1 2", 2);
        fails("1]", 1);
        fails("1 ]", 2);
        fails("1a", 1);
        fails("A", 1);
        fails("A8", 1);
        fails("A 0", 1);
        fails("E0", 0);
        fails("a0", 2);
        fails("a0 1", 4);
        fails("a0 1 2 3", 7);
        fails("a 0 1 2", 1);
        fails("a7 1 2", 1);
        fails("c3 1 2", 1);
        fails("n8 1", 1);
        fails("i6 1 2", 1);
        fails("r2 1", 1);
        fails("q3 1", 1);
        fails("f4 a0 1", 1);
        fails("b0 1", 0);
        fails("f0 1", 3);
        fails("f0 n0 1", 3);
        fails("f0 a7", 4);
        fails("f0 c3", 4);
        fails("f0a 0", 3);
        fails("f0", 2);
        fails("f3a0 1 2", 7);
        fails("'", 1);
        fails("[", 1);
        fails("[1", 2);
        fails("[1  ", 4);
        fails("[1)", 2);
        fails(NINES + "9", 18);
        fails(NINES + "99999", 18);
        fails("[" + NINES + "9]", 19);
        fails(".5", 0);
        fails("1.", 2);
        fails("1. 5", 2);
        fails("1.x", 2);
        fails("1 .5", 2);
        fails("1.5.5", 3);
        fails("1.234567890123456", 16);
        fails("123456789012345.6", 15);
        fails("12345678901234.56", 16);
        fails(NINES + ".5", 18);
        fails("[".repeat(11), 10);
        fails("[".repeat(10) + "s6", 10);
        fails("s6".repeat(10) + "[", 20);
        fails("s6".repeat(10) + " s6", 21);
        fails("f3a0".repeat(10) + "[]", 40);
        fails("[".repeat(10) + "1" + "]".repeat(9), 20);
        fails("[1" + " 1".repeat(39), 80);
        Sheet sheet = new Sheet();
        sheet.type("1");
        Due.is("enter -1", sheet.x.enter(-1), BAD);
        Due.is("enter 32", sheet.x.enter(32), BAD);
        Due.is("BAD leaves the tape", sheet.x.type('2', 1), 2);
        Due.is("BAD leaves the tape", sheet.x.enter(31), 0);
        Due.is("BAD leaves the tape", sheet.text(31), "12");
    }

    private static void clearAndFormula() {
        Sheet sheet = new Sheet().with("B3= [1 2]");
        Due.is("formula", sheet.x.formula(11, -1), 6);
        Due.is("formula", sheet.x.formula(11, 0), ' ');
        Due.is("formula", sheet.x.formula(11, 5), ']');
        Due.is("formula", sheet.x.formula(11, 6), NONE);
        Due.is("formula", sheet.x.formula(11, -2), NONE);
        Due.is("formula", sheet.x.formula(-1, 0), BAD);
        Due.is("formula", sheet.x.formula(32, -1), BAD);
        Due.is("ask", sheet.ask("B3"), "[1 2]");
        Due.is("clear", sheet.x.clear(-1), BAD);
        Due.is("clear", sheet.x.clear(32), BAD);
        Due.is("clear", sheet.x.clear(11), 6);
        Due.is("clear", sheet.x.clear(11), 0);
        Due.is("formula", sheet.x.formula(11, -1), 0);
        Due.is("ask", sheet.ask("B3"), "[]");
        sheet.type("12");
        sheet.x.clear(11);
        Due.is("clear leaves the tape", sheet.x.type('3', 1), 3);
    }

    private static void undoAndRedo() {
        Sheet sheet = new Sheet().with("A0=1", "A1=22", "A0=333");
        Due.is("clear", sheet.x.clear(1), 2);
        Due.is("clear of none is no change", sheet.x.clear(5), 0);
        Due.is("a refused enter is no change", sheet.enter(5, "["), 2);
        Due.is("undo clear", sheet.x.undo(), 1);
        Due.is("undo clear", sheet.text(1), "22");
        Due.is("undo enter", sheet.x.undo(), 0);
        Due.is("undo enter", sheet.text(0), "1");
        Due.is("redo enter", sheet.x.redo(), 0);
        Due.is("redo enter", sheet.text(0), "333");
        Due.is("undo again", sheet.x.undo(), 0);
        Due.is("undo again", sheet.x.undo(), 1);
        Due.is("undo again", sheet.x.formula(1, -1), 0);
        Due.is("undo again", sheet.x.undo(), 0);
        Due.is("undo again", sheet.x.formula(0, -1), 0);
        Due.is("no more", sheet.x.undo(), STATE);
        Due.is("redo", sheet.x.redo(), 0);
        Due.is("redo", sheet.text(0), "1");
        Due.is("a refused enter keeps what was undone", sheet.enter(5, "["), 2);
        Due.is("redo", sheet.x.redo(), 1);
        Due.is("a change", sheet.enter(2, "4"), 0);
        Due.is("what was undone ahead of it is gone", sheet.x.redo(), STATE);
        Due.is("undo", sheet.x.undo(), 2);
        Due.is("undo", sheet.x.undo(), 1);
        Due.is("redo", sheet.x.redo(), 1);
        Due.is("redo", sheet.x.redo(), 2);
        Due.is("redo", sheet.text(2), "4");
        Due.is("redo", sheet.x.redo(), STATE);
        sheet.enter(2, "4");
        Due.is("the same text is a change", sheet.x.undo(), 2);
        Due.is("the same text is a change", sheet.text(2), "4");
    }

    private static void fiftyChanges() {
        Sheet sheet = new Sheet();
        for (int i = 0; i < 60; i++) {
            sheet.enter(i % 32, String.valueOf(i));
        }
        for (int i = 59; i >= 10; i--) {
            Due.is("undo " + i, sheet.x.undo(), i % 32);
        }
        Due.is("only 50", sheet.x.undo(), STATE);
        Due.is("the older ones stand", sheet.text(9), "9");
        Due.is("the older ones stand", sheet.x.formula(10, -1), 0);
        for (int i = 10; i < 60; i++) {
            Due.is("redo " + i, sheet.x.redo(), i % 32);
        }
        Due.is("only 50", sheet.x.redo(), STATE);
        Due.is("all is back", sheet.text(27), "59");
        for (int i = 0; i < 20; i++) {
            sheet.x.undo();
        }
        sheet.enter(3, "1");
        for (int i = 0; i < 31; i++) {
            Due.is("30 and one more", sheet.x.undo() >= 0 ? 1 : 0, 1);
        }
        Due.is("30 and one more", sheet.x.undo(), STATE);
    }

    private static void undoForgets() {
        Sheet sheet = new Sheet().with("A0=1", "A1=a0 A0 1", "A0=5");
        Due.is("ask", sheet.ask("A1"), "6");
        sheet.x.undo();
        Due.is("undo forgets", sheet.x.stale(), 2);
        Due.is("ask", sheet.ask("A1"), "2");
        sheet.x.redo();
        Due.is("redo forgets", sheet.x.stale(), 2);
        Due.is("ask", sheet.ask("A1"), "6");
        Due.is("worked", sheet.x.worked(1), 3);
        sheet.type("9");
        sheet.x.undo();
        sheet.x.redo();
        Due.is("undo and redo leave the tape", sheet.x.type('9', 1), 2);
    }

    public static void main(String[] args) {
        newObject();
        type();
        enter();
        enterFaults();
        clearAndFormula();
        undoAndRedo();
        fiftyChanges();
        undoForgets();
        Due.end("FormulasTest");
    }
}
