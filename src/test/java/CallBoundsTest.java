import java.util.function.ToIntFunction;

/**
 * Promises 1 to 18 and terms, part 4: each bound of the calls, on both of its sides; what each call refuses, in which
 * order, and what stands afterwards. One function for each promise.
 */
public final class CallBoundsTest {
    private static final int BAD = -1, STATE = -2, FULL = -3, NONE = -5;
    private static final int[] NO_CELLS = {-1, 32, 33, 256, -32, Integer.MIN_VALUE, Integer.MAX_VALUE};

    /** A sheet with something everywhere: values remembered and not, a tape, an out, a part at hand, changes undone. */
    private static Sheet rich() {
        Sheet sheet = new Sheet().with("A0=[7 [A1 'a] 2.5]", "A1=9", "A2=[A0]", "D7=A2", "A1=8", "A2=[A0 1]", "B0=1");
        sheet.ask("A0");
        sheet.x.undo();
        sheet.x.undo();
        sheet.x.down(1);
        sheet.x.print();
        sheet.type("a0 1");
        return sheet;
    }

    /** The same with a tape of 80 bytes. */
    private static Sheet richAndFull() {
        Sheet sheet = rich();
        sheet.type(" ".repeat(76));
        return sheet;
    }

    /** One whose ask() have made 40000 steps and more; A0 is to be worked out. */
    private static Sheet spent() {
        Sheet sheet = new Sheet().with("A0=f2a0r0 22r0 22", "A1=[7]", "B0=[B0]");
        sheet.ask("A1");
        for (int i = 0; i < 20; i++) {
            sheet.ask("A0");
        }
        sheet.ask("A1");
        sheet.x.print();
        sheet.x.down(0);
        sheet.type("a0 1");
        return sheet;
    }

    private static void refused(String what, int due, ToIntFunction<NestSheet> call) {
        Refused.by(what, due, CallBoundsTest::rich, call);
    }

    private static String newObject() {
        return new Sheet().all();
    }

    /** One whose tape is full and whose ask() have made 40000 steps: more than one refusal may be due. */
    private static Sheet spentAndFull() {
        Sheet sheet = spent();
        sheet.type(" ".repeat(76));
        return sheet;
    }

    /** "Refusals are answers, of several the first: BAD -1 .., STATE -2, FULL -3. What is refused changes nothing .." */
    private static void refusals() {
        Refused.by("type, FULL alone", FULL, CallBoundsTest::spentAndFull, x -> x.type(' ', 1));
        Refused.by("type, BAD by n and FULL", BAD, CallBoundsTest::spentAndFull, x -> x.type(' ', 0));
        Refused.by("type, BAD by a byte and FULL", BAD, CallBoundsTest::spentAndFull, x -> x.type(7, 1));
        Refused.by("ask, FULL alone", FULL, CallBoundsTest::spentAndFull, x -> x.ask(0));
        Refused.by("ask, BAD and FULL", BAD, CallBoundsTest::spentAndFull, x -> x.ask(32));
        Refused.by("formula, BAD and NONE", BAD, CallBoundsTest::spentAndFull, x -> x.formula(32, 80));
        Refused.by("undo, STATE alone", STATE, Sheet::new, NestSheet::undo);
        Refused.by("redo, STATE alone", STATE, CallBoundsTest::spentAndFull, NestSheet::redo);
    }

    /** Promise 1: "No CELL has a formula; THE TAPE, THE OUT are empty." */
    private static void p1() {
        NestSheet x = new NestSheet();
        for (int cell = 0; cell < 32; cell++) {
            Due.is("new: formula(-1)", x.formula(cell, -1), 0);
            Due.is("new: formula(0)", x.formula(cell, 0), NONE);
            Due.is("new: needs itself", x.needs(cell, cell), 0);
            Due.is("new: worked", x.worked(cell), 0);
        }
        Due.is("new: out(0)", x.out(0), NONE);
        Due.is("new: top", x.top(), 3);
        Due.is("new: count", x.told(1), 0);
        Due.is("new: undo", x.undo(), STATE);
        Due.is("new: redo", x.redo(), STATE);
        Due.is("new: stale", x.stale(), 0);
        Due.is("new: steps", x.steps(0) + x.steps(1), 0);
        Due.is("new: the tape is empty", x.enter(0), 1);
        Due.is("new: one byte behind it", x.type('7', 1), 1);
        rich();
        Due.is("objects share nothing", newObject(), newObject());
        Due.is("the constants", NestSheet.BAD * 1000 + NestSheet.STATE * 100 + NestSheet.FULL * 10 + NestSheet.NONE,
            -1000 - 200 - 30 - 5);
    }

    /** Promise 2: n of 0, 1, 8, 9; bytes 31, 32, 126, 127 in each place; 80 and 81 on the tape */
    private static void p2() {
        for (int n : new int[] {0, 9, -1, 10, Integer.MIN_VALUE, Integer.MAX_VALUE}) {
            refused("type n " + n, BAD, x -> x.type(0x3131313131313131L, n));
            Refused.by("type n " + n + ", FULL too", BAD, CallBoundsTest::richAndFull,
                x -> x.type(0x3131313131313131L, n));
        }
        for (int n = 1; n <= 8; n++) {
            int count = n;
            for (int at = 0; at < n; at++) {
                long ones = 0x3131313131313131L & ~(0xffL << 8 * at);
                for (int sign : new int[] {0, 31, 127, 128, 255}) {
                    long w = ones | (long) sign << 8 * at;
                    refused("type byte " + sign + " at " + at + " of " + n, BAD, x -> x.type(w, count));
                }
                for (int sign : new int[] {32, 126}) {
                    Due.is("type byte " + sign, new NestSheet().type(ones | (long) sign << 8 * at, n), n);
                }
            }
            Due.is("what is above the n lowest is free", new NestSheet().type(n == 8 ? 0x3131313131313131L
                : 0x3131313131313131L & (1L << 8 * n) - 1 | -1L << 8 * n, n), n);
            Sheet sheet = new Sheet();
            sheet.type(" ".repeat(80 - n));
            Due.is("80 with " + n, sheet.x.type(0x2020202020202037L, n), 80);
            Due.is("80 is a formula", sheet.x.enter(0), 0);
            Due.is("80 is a formula", sheet.x.formula(0, 79), '7');
            Refused.by("81 with " + n, FULL, () -> {
                Sheet almost = rich();
                almost.type(" ".repeat(77 - count));
                return almost;
            }, x -> x.type(0x2020202020202037L, count));
            Refused.by("a full tape and " + n, FULL, CallBoundsTest::richAndFull,
                x -> x.type(0x2020202020202037L, count));
        }
        Refused.by("a bad byte ahead of FULL", BAD, CallBoundsTest::richAndFull, x -> x.type(31, 1));
        Refused.by("a bad byte ahead of FULL", BAD, CallBoundsTest::richAndFull, x -> x.type(0x3131317f31L, 5));
        Sheet order = new Sheet();
        order.x.type(0x3132333435363738L, 8);
        order.x.type(0x3930, 2);
        Due.is("the highest first", order.x.enter(0), 0);
        Due.is("the highest first", order.text(0), "1234567890");
    }

    /** Promise 3: cells -1, 0, 31, 32; the tape stays by BAD alone; a fault leaves the CELL and all CHANGES */
    private static void p3() {
        for (int cell : NO_CELLS) {
            refused("enter " + cell, BAD, x -> x.enter(cell));
            Refused.by("enter " + cell + " of no formula", BAD, () -> {
                Sheet sheet = rich();
                sheet.type("]");
                return sheet;
            }, x -> x.enter(cell));
        }
        for (int cell : new int[] {0, 31}) {
            Sheet sheet = rich();
            sheet.type(" 2");
            Due.is("enter " + cell, sheet.x.enter(cell), 0);
            Due.is("enter " + cell, sheet.text(cell), "a0 1 2");
            Due.is("the tape is empty", sheet.x.type('7', 1), 1);
            Due.is("nothing to be done again", sheet.x.redo(), STATE);
            Due.is("a CHANGE", sheet.x.undo(), cell);
        }
        Sheet touched = rich();
        Sheet untouched = rich();
        Due.is("a fault", touched.x.enter(0), 5);
        untouched.type("]");
        Due.is("a fault elsewhere", untouched.x.enter(31), 5);
        Due.is("a fault changes the tape alone", touched.all(), untouched.all());
        Due.is("a fault at the end", new Sheet().enter(0, "[7"), 3);
        Due.is("a fault at the beginning", new Sheet().enter(0, "]"), 1);
        Due.is("the empty tape", new NestSheet().enter(31), 1);
    }

    /** Promise 4: cells -1, 0, 31, 32; with a formula and without one */
    private static void p4() {
        for (int cell : NO_CELLS) {
            refused("clear " + cell, BAD, x -> x.clear(cell));
        }
        refused("clear of a CELL without a formula", 0, x -> x.clear(30));
        refused("clear of a CELL without a formula", 0, x -> x.clear(8));
        for (int cell : new int[] {0, 31}) {
            for (int length : new int[] {1, 80}) {
                Sheet sheet = new Sheet();
                sheet.enter(cell, "7" + " ".repeat(length - 1));
                Due.is("clear", sheet.x.clear(cell), length);
                Due.is("no formula", sheet.x.formula(cell, -1), 0);
                Due.is("no formula", sheet.x.formula(cell, 0), NONE);
                Due.is("no formula", sheet.x.clear(cell), 0);
                Due.is("one CHANGE", sheet.x.undo(), cell);
                Due.is("undone", sheet.x.formula(cell, -1), length);
                Due.is("the other CHANGE", sheet.x.undo(), cell);
                Due.is("no more", sheet.x.undo(), STATE);
            }
        }
        Sheet sheet = rich();
        sheet.x.clear(31);
        Due.is("a clear leaves the tape", sheet.x.type('7', 1), 5);
        Due.is("nothing to be done again", sheet.x.redo(), STATE);
    }

    /** Promise 5: i of -2, -1, 0, the last, one more; cells -1, 0, 31, 32; BAD ahead of NONE */
    private static void p5() {
        for (int cell : NO_CELLS) {
            for (int i : new int[] {-2, -1, 0, 99}) {
                refused("formula(" + cell + ", " + i + ")", BAD, x -> x.formula(cell, i));
            }
        }
        for (int cell : new int[] {0, 31}) {
            for (int length : new int[] {1, 2, 79, 80}) {
                Sheet sheet = new Sheet();
                sheet.enter(cell, " ".repeat(length - 1) + "7");
                Due.is("formula(-1)", sheet.x.formula(cell, -1), length);
                Due.is("formula(0)", sheet.x.formula(cell, 0), length == 1 ? '7' : ' ');
                Due.is("the last byte", sheet.x.formula(cell, length - 1), '7');
                Due.is("behind it", sheet.x.formula(cell, length), NONE);
                Due.is("ahead of it", sheet.x.formula(cell, -2), NONE);
                Due.is("far ahead", sheet.x.formula(cell, Integer.MIN_VALUE), NONE);
                Due.is("far behind", sheet.x.formula(cell, Integer.MAX_VALUE), NONE);
            }
            NestSheet x = new NestSheet();
            Due.is("how many bytes without a formula", x.formula(cell, -1), 0);
            for (int i : new int[] {-2, 0, 1, Integer.MIN_VALUE, Integer.MAX_VALUE}) {
                Due.is("byte " + i + " without a formula", x.formula(cell, i), NONE);
            }
        }
    }

    /** Promises 6, 7: none to be undone, none to be done again; what a CHANGE and what a refused one takes away */
    private static void p6p7() {
        Refused.by("undo of none", STATE, () -> {
            Sheet sheet = rich();
            while (sheet.x.undo() >= 0) {
                sheet.x.steps(0);
            }
            return sheet;
        }, NestSheet::undo);
        Refused.by("redo of none", STATE, () -> {
            Sheet sheet = rich();
            while (sheet.x.redo() >= 0) {
                sheet.x.steps(0);
            }
            return sheet;
        }, NestSheet::redo);
        Sheet sheet = new Sheet().with("A0=7", "D7=8", "A0=9");
        Due.is("undo", sheet.x.undo(), 0);
        Due.is("before", sheet.text(0), "7");
        Due.is("undo", sheet.x.undo(), 31);
        Due.is("before", sheet.x.formula(31, -1), 0);
        Due.is("undo", sheet.x.undo(), 0);
        Due.is("before", sheet.x.formula(0, -1), 0);
        Due.is("undo", sheet.x.undo(), STATE);
        Due.is("redo", sheet.x.redo(), 0);
        Due.is("again", sheet.text(0), "7");
        Due.is("redo", sheet.x.redo(), 31);
        Due.is("again", sheet.text(31), "8");
        Due.is("redo", sheet.x.redo(), 0);
        Due.is("again", sheet.text(0), "9");
        Due.is("redo", sheet.x.redo(), STATE);
        Due.is("undo", sheet.x.undo(), 0);
        Due.is("a clear of none", sheet.x.clear(5), 0);
        Due.is("a fault", sheet.enter(5, "x"), 1);
        Due.is("they take nothing away", sheet.x.redo(), 0);
        Due.is("undo", sheet.x.undo(), 0);
        Due.is("a CHANGE", sheet.x.clear(31), 1);
        Due.is("takes away what was undone", sheet.x.redo(), STATE);
        Due.is("undo", sheet.x.undo(), 31);
        Due.is("undo", sheet.x.undo(), 31);
        Due.is("undo", sheet.x.undo(), 0);
        Due.is("undo", sheet.x.undo(), STATE);
    }

    /** How many CHANGES a call makes of a sheet with two: how many more can be undone behind it. */
    private static int changesBy(ToIntFunction<Sheet> call) {
        Sheet sheet = new Sheet().with("A0=7", "A1=A0");
        call.applyAsInt(sheet);
        int count = 0;
        while (sheet.x.undo() >= 0) {
            count++;
        }
        return count - 2;
    }

    /** Terms 4: "CHANGES are each enter() that was accepted and each clear() of a CELL with a formula." */
    private static void whatIsAChange() {
        Due.is("an enter()", changesBy(sheet -> sheet.enter(2, "8")), 1);
        Due.is("an enter() of another text", changesBy(sheet -> sheet.enter(0, "8")), 1);
        Due.is("an enter() of the text that stands", changesBy(sheet -> sheet.enter(0, "7")), 1);
        Due.is("an enter() of no formula", changesBy(sheet -> sheet.enter(0, "x")), 0);
        Due.is("an enter() of nothing", changesBy(sheet -> sheet.enter(0, "")), 0);
        Due.is("an enter() that is refused", changesBy(sheet -> sheet.enter(32, "8")), 0);
        Due.is("a clear()", changesBy(sheet -> sheet.x.clear(0)), 1);
        Due.is("two of them", changesBy(sheet -> sheet.x.clear(0) + sheet.x.clear(0)), 1);
        Due.is("a clear() without a formula", changesBy(sheet -> sheet.x.clear(2)), 0);
        Due.is("a clear() that is refused", changesBy(sheet -> sheet.x.clear(32)), 0);
        Due.is("an undo()", changesBy(sheet -> sheet.x.undo()), -1);
        Due.is("an undo() and a redo()", changesBy(sheet -> sheet.x.undo() + sheet.x.redo()), 0);
        Due.is("a type()", changesBy(sheet -> sheet.type("7")), 0);
        Due.is("an ask()", changesBy(sheet -> sheet.x.ask(1)), 0);
        Due.is("a print()", changesBy(sheet -> sheet.x.print()), 0);
    }

    /** Terms 4: "The latest 50 that were not undone, and what was undone since the latest one" */
    private static void changes50() {
        for (int count : new int[] {1, 49, 50, 51, 54}) {
            Sheet sheet = new Sheet();
            for (int i = 0; i < count; i++) {
                Due.is("a CHANGE", sheet.enter(i % 3, "" + i), 0);
            }
            int kept = Math.min(count, 50);
            for (int i = count - 1; i >= count - kept; i--) {
                Due.is("undo of " + i + " of " + count, sheet.x.undo(), i % 3);
                Due.is("what stood", sheet.text(i % 3), i >= 3 ? "" + (i - 3) : "");
            }
            Due.is("no more of " + count, sheet.x.undo(), STATE);
            for (int i = count - kept; i < count; i++) {
                Due.is("redo of " + i + " of " + count, sheet.x.redo(), i % 3);
                Due.is("what stands", sheet.text(i % 3), "" + i);
            }
            Due.is("no more of " + count, sheet.x.redo(), STATE);
        }
        for (int undone : new int[] {0, 1, 49, 50}) {
            Sheet sheet = new Sheet();
            for (int i = 0; i < 51; i++) {
                sheet.enter(i % 3, "" + i);
            }
            for (int i = 0; i < undone; i++) {
                sheet.x.undo();
            }
            Due.is("one more", sheet.enter(9, "7"), 0);
            Due.is("nothing to be done again", sheet.x.redo(), STATE);
            Due.is("the new one", sheet.x.undo(), 9);
            int left = Math.min(49, 50 - undone);
            for (int i = 0; i < left; i++) {
                Due.is("behind " + undone, sheet.x.undo(), (50 - undone - i) % 3);
            }
            Due.is("no more behind " + undone, sheet.x.undo(), STATE);
        }
        Sheet both = new Sheet().with("A0=7");
        for (int i = 0; i < 51; i++) {
            Due.is(i % 2 == 0 ? "clear" : "enter", i % 2 == 0 ? both.x.clear(0) : both.enter(0, "7"), i % 2 == 0 ? 1 : 0);
        }
        for (int i = 0; i < 50; i++) {
            Due.is("enter and clear count alike", both.x.undo(), 0);
        }
        Due.is("no more", both.x.undo(), STATE);
        Due.is("the first clear stands", both.x.formula(0, -1), 0);
    }

    /** Terms 4: "THE VALUE is that of the latest ask() that was not refused (..); in it one is AT HAND, at first .." */
    private static void theValue() {
        Sheet sheet = new Sheet().with("A0=[7[8]]", "A1='a", "A2=a3 1 0", "A3=f2a0r0 22r0 22", "A4=A4");
        Due.is("at first", sheet.shown(), "[]");
        Due.is("of an ask()", sheet.ask("A0"), "[7 [8]]");
        Due.is("a part at hand", sheet.x.down(1), 3);
        Due.is("a part at hand", sheet.shown(), "[8]");
        Due.is("refused", sheet.x.ask(32), BAD);
        Due.is("refused: the part", sheet.shown(), "[8]");
        sheet.enter(0, "9");
        sheet.x.clear(1);
        sheet.x.undo();
        Due.is("behind CHANGES: the part", sheet.shown(), "[8]");
        Due.is("behind CHANGES: the value", sheet.x.top(), 3);
        Due.is("behind CHANGES: the value", sheet.shown(), "[7 [8]]");
        sheet.x.down(0);
        Due.is("of the next ask(), itself", sheet.ask("A1"), "'a");
        Due.is("of a failure", sheet.ask("A2"), "!3@A2:0");
        Due.is("of one that was stopped", sheet.ask("A3"), "!7@A3:0");
        Due.is("of one on a loop", sheet.ask("A4"), "!6@A4:0");
        Due.is("of one without a formula", sheet.ask("D7"), "[]");
        Due.is("of a remembered one", sheet.ask("A1"), "'a");
        Sheet spent = spent();
        String before = spent.shown();
        Due.is("FULL", spent.x.ask(0), FULL);
        Due.is("FULL: what was at hand", spent.shown(), before);
        Due.is("FULL: the value", spent.x.top(), 3);
        Due.is("FULL: the value", spent.shown(), "[7]");
    }

    /** Promise 8: both cells -1, 0, 31, 32; 0, 1, 2; 1 ahead of 2 */
    private static void p8() {
        for (int cell : NO_CELLS) {
            refused("needs(" + cell + ", 0)", BAD, x -> x.needs(cell, 0));
            refused("needs(0, " + cell + ")", BAD, x -> x.needs(0, cell));
            refused("needs(" + cell + ", " + cell + ")", BAD, x -> x.needs(cell, cell));
        }
        NestSheet x = new Sheet().with("A0=D7", "D7=[A1 A2]", "A2=A1", "A3=A3", "A4=A5", "A5=A4", "A6=q0 0 A7 1").x;
        Due.is("named", x.needs(0, 31), 1);
        Due.is("through one", x.needs(0, 1), 2);
        Due.is("named, and through another", x.needs(31, 1), 1);
        Due.is("through one", x.needs(0, 2), 2);
        Due.is("not", x.needs(1, 0), 0);
        Due.is("not itself", x.needs(0, 0), 0);
        Due.is("not the other way", x.needs(31, 0), 0);
        Due.is("itself", x.needs(3, 3), 1);
        Due.is("itself through another", x.needs(4, 4), 2);
        Due.is("named on a loop", x.needs(4, 5), 1);
        Due.is("where it is never worked out", x.needs(6, 7), 1);
        Due.is("of none", x.needs(7, 7), 0);
        x.clear(31);
        Due.is("still named", x.needs(0, 31), 1);
        Due.is("not any more", x.needs(0, 1), 0);
    }

    /** Promise 9: with a formula, not ON A LOOP, not REMEMBERED: one without each of the three */
    private static void p9() {
        Sheet sheet = new Sheet();
        Due.is("without a formula", sheet.x.stale(), 0);
        sheet.with("A0=7");
        Due.is("with one", sheet.x.stale(), 1);
        sheet.ask("A0");
        Due.is("remembered", sheet.x.stale(), 0);
        sheet.with("A1=A1", "A2=A1", "A3=q0 1 7 A3");
        Due.is("on a loop, and needing one", sheet.x.stale(), 1);
        sheet.ask("A2");
        Due.is("a remembered FAILURE", sheet.x.stale(), 0);
        sheet.x.clear(0);
        Due.is("cleared", sheet.x.stale(), 0);
        for (int cell = 0; cell < 32; cell++) {
            sheet.enter(cell, "7");
        }
        Due.is("all", sheet.x.stale(), 32);
        sheet.with("A0=f2a0r0 22r0 22");
        sheet.ask("A0");
        Due.is("one that was stopped", sheet.x.stale(), 32);
    }

    /** Promise 10: cells -1, 0, 31, 32; what is worked out wholly and what is not */
    private static void p10() {
        for (int cell : NO_CELLS) {
            refused("worked " + cell, BAD, x -> x.worked(cell));
        }
        Sheet sheet = new Sheet().with("A0=7", "D7=[A0 A0]", "A1=A1", "A2=f2a0r0 22r0 22", "A3=a3 1 0", "A4=A2");
        for (int cell : new int[] {0, 1, 2, 3, 4, 31}) {
            Due.is("not yet", sheet.x.worked(cell), 0);
        }
        sheet.ask("D7");
        Due.is("once, named twice", sheet.x.worked(0), 1);
        Due.is("once", sheet.x.worked(31), 1);
        sheet.ask("D7");
        sheet.ask("A0");
        Due.is("remembered", sheet.x.worked(0) + sheet.x.worked(31), 2);
        sheet.with("A0=8");
        Due.is("a CHANGE leaves it", sheet.x.worked(0) + sheet.x.worked(31), 2);
        sheet.ask("D7");
        Due.is("again", sheet.x.worked(0) + sheet.x.worked(31), 4);
        sheet.x.clear(0);
        Due.is("a clear leaves it", sheet.x.worked(0), 2);
        sheet.ask("A0");
        Due.is("without a formula", sheet.x.worked(0), 2);
        sheet.ask("A1");
        Due.is("on a loop", sheet.x.worked(1), 0);
        sheet.ask("A2");
        sheet.ask("A4");
        Due.is("stopped", sheet.x.worked(2) + sheet.x.worked(4), 0);
        sheet.ask("A3");
        Due.is("a FAILURE", sheet.x.worked(3), 1);
    }

    /** Promise 11: cells -1, 0, 31, 32; each sort; BAD ahead of FULL; FULL only of what is to be worked out */
    private static void p11() {
        for (int cell : NO_CELLS) {
            refused("ask " + cell, BAD, x -> x.ask(cell));
            Refused.by("ask " + cell + ", FULL too", BAD, CallBoundsTest::spent, x -> x.ask(cell));
        }
        Refused.by("ask of one to be worked out", FULL, CallBoundsTest::spent, x -> x.ask(0));
        Sheet spent = spent();
        spent.x.enter(31);
        Due.is("a remembered one", spent.ask("A1"), "[7]");
        Due.is("one on a loop", spent.ask("B0"), "!6@B0:0");
        Due.is("one without a formula", spent.ask("D7"), "[]");
        Due.is("forgotten by a CHANGE", spent.with("A1=8").x.ask(1), FULL);
        Due.is("undone, it is forgotten too", spent.x.undo(), 1);
        Due.is("undone, it is forgotten too", spent.x.ask(1), FULL);
        spent.x.clear(1);
        Due.is("cleared", spent.ask("A1"), "[]");
        for (int cell : new int[] {0, 31}) {
            Sheet sheet = new Sheet();
            String[] formulas = {"7", "7.5", "'a", "[]", "a3 1 0"};
            for (int sort = 0; sort < formulas.length; sort++) {
                sheet.enter(cell, formulas[sort]);
                Due.is("the sort of " + formulas[sort], sheet.x.ask(cell), sort);
                Due.is("the sort of " + formulas[sort], sheet.x.told(0), sort);
            }
        }
    }

    /** Promise 12: which of -1, 0, 1, 2; refused ask() leave both */
    private static void p12() {
        for (int which : new int[] {-1, 2, Integer.MIN_VALUE, Integer.MAX_VALUE}) {
            refused("steps " + which, BAD, x -> x.steps(which));
        }
        Sheet sheet = new Sheet().with("A0=7", "A1=[7]");
        Due.is("none yet", sheet.x.steps(0) + sheet.x.steps(1), 0);
        sheet.ask("A0");
        Due.is("the latest", sheet.x.steps(0), 2);
        Due.is("all", sheet.x.steps(1), 2);
        sheet.ask("A1");
        Due.is("the latest", sheet.x.steps(0), 6);
        Due.is("all", sheet.x.steps(1), 8);
        sheet.x.ask(-1);
        Due.is("refused: the latest", sheet.x.steps(0), 6);
        sheet.ask("A0");
        Due.is("remembered: the latest", sheet.x.steps(0), 0);
        Due.is("remembered: all", sheet.x.steps(1), 8);
        sheet.with("A0=f2a0r0 22r0 22");
        sheet.ask("A0");
        Due.is("stopped: all", sheet.x.steps(1), 8 + sheet.x.steps(0));
        sheet.x.clear(0);
        sheet.x.undo();
        Due.is("changes leave all", sheet.x.steps(1), 8 + sheet.x.steps(0));
    }

    /** Promises 13, 14: i of -1, 0, the last, one more; of each sort; top and ask() bring THE VALUE back */
    private static void p13p14() {
        for (int i : new int[] {-1, 2, 3, Integer.MIN_VALUE, Integer.MAX_VALUE}) {
            refused("down " + i, BAD, x -> x.down(i));
        }
        for (String one : new String[] {"7", "7.5", "'a", "[]", "a3 1 0"}) {
            for (int i : new int[] {-1, 0, 1}) {
                Refused.by("down in " + one, BAD, () -> {
                    Sheet sheet = rich();
                    sheet.x.enter(5);
                    sheet.enter(5, one);
                    sheet.ask(5);
                    return sheet;
                }, x -> x.down(i));
            }
        }
        Sheet wide = new Sheet().with("A0=r0 32", "A1=[[[['a]]]]");
        wide.ask("A0");
        Due.is("the last", wide.x.down(31), 0);
        Due.is("the last", wide.x.number(), 31);
        Due.is("a WHOLE is at hand", wide.x.down(0), BAD);
        Due.is("top", wide.x.top(), 3);
        Due.is("one more", wide.x.down(32), BAD);
        Due.is("the first", wide.x.down(0), 0);
        Due.is("the first", wide.x.number(), 0);
        wide.ask("A1");
        for (int depth = 3; depth > 0; depth--) {
            Due.is("down", wide.x.down(0), 3);
            Due.is("down", wide.x.told(3), depth);
        }
        Due.is("down to the LEAF", wide.x.down(0), 2);
        Due.is("no deeper", wide.x.down(0), BAD);
        Due.is("still there", wide.x.told(7), 'a');
        Due.is("a refused ask()", wide.x.ask(32), BAD);
        Due.is("still there", wide.x.told(7), 'a');
        Due.is("an ask()", wide.x.ask(1), 3);
        Due.is("itself again", wide.x.told(3), 4);
        Due.is("top of a top", wide.x.top(), 3);
        NestSheet young = new NestSheet();
        Due.is("at first", young.down(0), BAD);
        Due.is("at first", young.top(), 3);
        Due.is("at first", young.told(1), 0);
    }

    private static void told(String formula, int... due) {
        Sheet sheet = Due.asked("A0=" + formula);
        for (int what = 0; what <= 7; what++) {
            Due.is("told(" + what + ") of " + formula, sheet.x.told(what), due[what]);
        }
    }

    /** Promise 15: what of -1, 0, 7, 8; of each sort */
    private static void p15() {
        for (int what : new int[] {-1, 8, 9, Integer.MIN_VALUE, Integer.MAX_VALUE}) {
            refused("told " + what, BAD, x -> x.told(what));
        }
        told("7", 0, NONE, 1, 0, NONE, NONE, NONE, NONE);
        told("7.5", 1, NONE, 1, 0, NONE, NONE, NONE, NONE);
        told("' ", 2, NONE, 1, 0, NONE, NONE, NONE, 32);
        told("'~", 2, NONE, 1, 0, NONE, NONE, NONE, 126);
        told("[]", 3, 0, 1, 1, NONE, NONE, NONE, NONE);
        told("[7]", 3, 1, 2, 1, NONE, NONE, NONE, NONE);
        told("[[[[]]]]", 3, 1, 4, 4, NONE, NONE, NONE, NONE);
        told("r0 32", 3, 32, 33, 1, NONE, NONE, NONE, NONE);
        told("a0 1'a", 4, NONE, NONE, NONE, 1, 0, 0, NONE);
        told("f2a0r0 22r0 22", 4, NONE, NONE, NONE, 7, 0, 0, NONE);
        Sheet far = Due.asked("D7=" + " ".repeat(76) + "n0'a", "A0=D7");
        Due.is("the CELL", far.x.told(5), 31);
        Due.is("the PLACE", far.x.told(6), 76);
        Due.is("the KIND", far.x.told(4), 1);
    }

    private static void number(String formula, long due) {
        Due.is("number() of " + formula, Due.asked("A0=" + formula).x.number(), due);
    }

    /** Promise 16: of each sort */
    private static void p16() {
        number("0", 0);
        number("n0 1", -1);
        number("a2 n0 2147483648 4294967296", Long.MIN_VALUE);
        number("a1 a2 n0 2147483648 4294967296 1", Long.MAX_VALUE);
        number("0.0", 0);
        number("n0 0.0", Long.MIN_VALUE);
        number("1.5", 0x3ff8000000000000L);
        number("a3 0.0 0", 0x7ff8000000000000L);
        number("n0 a3 0.0 0", 0x7ff8000000000000L);
        number("'a", 0);
        number("[7]", 0);
        number("a3 1 0", 0);
        Sheet sheet = Due.asked("A0=[7[8]]");
        sheet.x.down(0);
        Due.is("at hand", sheet.x.number(), 7);
        Due.is("at first", new NestSheet().number(), 0);
    }

    private static void printed(String due, String... lines) {
        StringBuilder text = new StringBuilder();
        Sheet sheet = null;
        for (int i = 0; i < due.length(); i++) {
            // A new one now and then: an object is used for 512 calls.
            if (i % 400 == 0) {
                sheet = Due.asked(lines);
                Due.is("print() of " + String.join(", ", lines), sheet.x.print(), due.length());
            }
            text.append((char) sheet.x.out(i));
        }
        Due.is("what is printed of " + String.join(", ", lines), text.toString(), due);
        Due.is("behind it", sheet.x.out(due.length()), NONE);
        Due.is("ahead of it", sheet.x.out(-1), NONE);
    }

    /** Promises 17, 18: each sort, the shortest and the longest; i of -1, 0, the last, one more */
    private static void p17p18() {
        printed("0", "A0=0");
        printed("-1", "A0=n0 1");
        printed("9", "A0=9");
        printed("10", "A0=10");
        printed("-9223372036854775808", "A0=a2 n0 2147483648 4294967296");
        printed("9223372036854775807", "A0=a1 a2 n0 2147483648 4294967296 1");
        printed("#0000000000000000", "A0=0.0");
        printed("#8000000000000000", "A0=n0 0.0");
        printed("#7ff8000000000000", "A0=a3 0.0 0");
        printed("#fff0000000000000", "A0=a3 n0 1.0 0");
        printed(Sheet.real(999999999999997.0 / 10.0), "A0=99999999999999.7");
        printed("' ", "A0=' ");
        printed("'~", "A0='~");
        printed("[]", "A0=[]");
        printed("[7]", "A0=[ 7 ]");
        printed("[7 8]", "A0=[7 8]");
        printed("[[[[]]]]", "A0=[[[[]]]]");
        printed("[[] '  [] -7]", "A0=[[]' []n0 7]");
        for (int kind = 1; kind <= 7; kind++) {
            String[] formulas = {"a0 1'a", "a0[][1]", "a3 1 0", "i0[]0", "r0 33", "A0", "f2a0r0 22r0 22"};
            printed("!" + kind, "A0=" + formulas[kind - 1]);
        }
        String row = "[" + "-9223372036854775808 ".repeat(31) + "-9223372036854775808]";
        printed("[" + (row + " ").repeat(6) + "-9223372036854775808]", "B0=a2 n0 2147483648 4294967296",
            "B1=r1 32 B0", "A0=[B1 B1 B1 B1 B1 B1 B0]");
        Due.is("the out of the rich one ends", rich().x.out(5), ']');
        for (int i : new int[] {-1, 6, 7, Integer.MIN_VALUE, Integer.MAX_VALUE}) {
            refused("out " + i, NONE, x -> x.out(i));
        }
        Sheet sheet = Due.asked("A0=[10 2]");
        Due.is("not yet printed", sheet.x.out(0), NONE);
        Due.is("print", sheet.x.print(), 6);
        sheet.x.down(1);
        Due.is("the out stays", sheet.x.out(1), '1');
        Due.is("print again", sheet.x.print(), 1);
        Due.is("it is all there is", sheet.x.out(0), '2');
        Due.is("it is all there is", sheet.x.out(1), NONE);
    }

    public static void main(String[] args) {
        refusals();
        p1();
        p2();
        p3();
        p4();
        p5();
        p6p7();
        whatIsAChange();
        changes50();
        theValue();
        p8();
        p9();
        p10();
        p11();
        p12();
        p13p14();
        p15();
        p16();
        p17p18();
        Due.end("CallBoundsTest");
    }
}
