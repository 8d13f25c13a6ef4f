/** Promises 8 to 12: what cells need, what is remembered, how it is worked out and counted. */
public final class CellsTest {
    private static final int BAD = -1, FULL = -3;

    private static void needs() {
        NestSheet x = new Sheet().with("A0=[A1 A2]", "A2=q0 1 2 A3", "A3=A4", "B0=B0", "C0=C1", "C1=C0").x;
        Due.is("names", x.needs(0, 1), 1);
        Due.is("names", x.needs(0, 2), 1);
        Due.is("through another", x.needs(0, 3), 2);
        Due.is("through two", x.needs(0, 4), 2);
        Due.is("named where it is never worked out", x.needs(2, 3), 1);
        Due.is("not", x.needs(0, 0), 0);
        Due.is("not", x.needs(3, 0), 0);
        Due.is("not", x.needs(31, 0), 0);
        Due.is("itself", x.needs(8, 8), 1);
        Due.is("itself through another", x.needs(16, 16), 2);
        Due.is("names", x.needs(16, 17), 1);
        for (int wrong : new int[] {-1, 32, Integer.MIN_VALUE, Integer.MAX_VALUE}) {
            Due.is("needs", x.needs(wrong, 0), BAD);
            Due.is("needs", x.needs(0, wrong), BAD);
            Due.is("worked", x.worked(wrong), BAD);
            Due.is("ask", x.ask(wrong), BAD);
        }
        x.clear(2);
        Due.is("no more", x.needs(0, 3), 0);
        Due.is("still", x.needs(0, 2), 1);
        x.undo();
        Due.is("again", x.needs(0, 4), 2);
    }

    private static void loops() {
        Sheet sheet = new Sheet().with("A0=A1", "A1=[1 A0]", "A2=q1 A1 7", "A3=A2", "B0=q0 0 B0 5", "A4=A0");
        Due.is("on a loop", sheet.ask("A0"), "!6@A0:0");
        Due.is("on a loop", sheet.ask("A1"), "!6@A1:0");
        Due.is("no steps", sheet.x.steps(0), 0);
        Due.is("a form that is never worked out", sheet.ask("B0"), "!6@B0:0");
        Due.is("not worked out", sheet.x.worked(0) + sheet.x.worked(1) + sheet.x.worked(8), 0);
        Due.is("stale", sheet.x.stale(), 3);
        Due.is("it needs one on a loop", sheet.ask("A4"), "!6@A0:0");
        Due.is("it needs one on a loop", sheet.x.steps(0), 1);
        Due.is("it needs one on a loop", sheet.x.worked(4), 1);
        Due.is("caught", sheet.ask("A3"), "7");
        Due.is("stale", sheet.x.stale(), 0);
        sheet.with("A1=3");
        Due.is("no loop any more", sheet.x.stale(), 5);
        Due.is("no loop any more", sheet.ask("A0"), "3");
        Due.is("no loop any more", sheet.ask("A4"), "3");
        Due.is("no loop any more", sheet.ask("A3"), "3");
        sheet.with("A1=A4");
        Due.is("a loop again", sheet.ask("A4"), "!6@A4:0");
        Due.is("a loop again", sheet.x.stale(), 2);
    }

    private static void remembered() {
        Sheet sheet = new Sheet().with("A0=a0 A1 A2", "A1=a0 A2 1", "A2=10", "A3=5");
        Due.is("stale", sheet.x.stale(), 4);
        Due.is("ask", sheet.ask("A0"), "21");
        Due.is("stale", sheet.x.stale(), 1);
        Due.is("each once", sheet.x.worked(0) * 100 + sheet.x.worked(1) * 10 + sheet.x.worked(2), 111);
        Due.is("not asked for", sheet.x.worked(3), 0);
        sheet.ask("A0");
        Due.is("remembered", sheet.x.steps(0), 0);
        Due.is("remembered", sheet.x.worked(0), 1);
        sheet.with("A3=6");
        Due.is("nothing that they need", sheet.x.stale(), 1);
        sheet.with("A1=a0 A2 2");
        Due.is("it and what needs it", sheet.x.stale(), 3);
        Due.is("ask", sheet.ask("A0"), "22");
        Due.is("worked", sheet.x.worked(0) * 100 + sheet.x.worked(1) * 10 + sheet.x.worked(2), 221);
        sheet.with("A2=10");
        Due.is("through another", sheet.x.stale(), 4);
        Due.is("ask", sheet.ask("A1"), "12");
        Due.is("worked", sheet.x.worked(0) * 100 + sheet.x.worked(1) * 10 + sheet.x.worked(2), 232);
        Due.is("clear", sheet.x.clear(2), 2);
        Due.is("a needed one cleared", sheet.x.stale(), 3);
        Due.is("ask", sheet.ask("A0"), "[]");
        sheet.with("B0=a3 1 0", "B1=[B0]");
        Due.is("a failure", sheet.ask("B1"), "!3@B0:0");
        Due.is("failures are remembered", sheet.ask("B1"), "!3@B0:0");
        Due.is("failures are remembered", sheet.x.steps(0), 0);
        Due.is("failures are remembered", sheet.x.worked(9), 1);
        Due.is("a cell without a formula", sheet.ask("D7"), "[]");
        Due.is("a cell without a formula", sheet.x.worked(31), 0);
        Due.is("a cell without a formula", sheet.x.steps(0), 0);
    }

    private static void ofSorts() {
        Sheet sheet = new Sheet().with("A0=1", "A1=1.5", "A2='a", "A3=[]", "A4=a3 1 0");
        for (int cell = 0; cell < 5; cell++) {
            Due.is("the sort of cell " + cell, sheet.x.ask(cell), cell);
            Due.is("the sort of cell " + cell, sheet.x.top(), cell);
        }
        sheet.x.ask(0);
        sheet.x.ask(-1);
        Due.is("what is refused changes nothing", sheet.x.number(), 1);
    }

    private static void steps() {
        Due.steps("1", 2);
        Due.steps("'a", 2);
        Due.steps("[]", 2);
        Due.steps("[1 2]", 1 + 4 + 2 + 3);
        Due.steps("B0", 1);
        Due.steps("s0 B0", 1 + 1 + 1 + 1);
        Due.steps("a0 1 2", 1 + 4 + 2 + 1);
        Due.steps("a3 1 0", 1 + 4 + 2);
        Due.steps("a0 a3 1 0 2", 1 + 7);
        Due.steps("a0 2 a3 1 0", 1 + 2 + 7);
        Due.steps("q0 1 2 3", 1 + 2 + 2);
        Due.steps("q0 0 2 3", 1 + 2 + 2);
        Due.steps("q0 'a 2 3", 1 + 2);
        Due.steps("q1 1 2", 1 + 2);
        Due.steps("q1 a3 1 0 2", 1 + 7 + 2);
        Due.steps("q2 a3 1 0", 1 + 7 + 1);
        Due.steps("q2 [1]", 1 + 6 + 1);
        Due.steps("r0 3", 1 + 2 + 1 + 4);
        Due.steps("r0 33", 1 + 2 + 1);
        Due.steps("f0 a0 0 r0 2", 1 + 2 + 7 + 4 + 2 * (1 + 2 + 1) + 1);
        Due.steps("f1 a0 0 r0 2", 1 + 2 + 7 + 4 + 2 * (1 + 2 + 1) + 3);
        Due.steps("f2 a0 r0 2 r0 1", 1 + 7 + 6 + 5 + 2 * (1 + 2 + 1) + 5);
        Due.steps("f3 a0 r0 3", 1 + 8 + 4 + 2 * (1 + 2 + 1) + 3);
        Due.steps("f0 a0 0 1", 1 + 2 + 2 + 2);
        Due.steps("f3 a3 [1 0 2]", 1 + 1 + 6 + 3 + 4 + 4 + 1 + 2);
        Due.steps("f2 a0 r0 13 r0 20", 1 + 18 + 25 + 35 + 4 * 260);
        Due.steps("a0 [1 [2]] 1", 1 + 16 + 2 + 5 + 4);
    }

    private static void stepsOfCells() {
        Sheet sheet = new Sheet().with("A0=[A1 A1]", "A1=a0 1 2");
        sheet.ask("A0");
        Due.is("worked out once, named twice", sheet.x.steps(0), 1 + 1 + 8 + 1 + 2 + 3);
        Due.is("of all", sheet.x.steps(1), 16);
        sheet.ask("A0");
        Due.is("the latest", sheet.x.steps(0), 0);
        Due.is("of all", sheet.x.steps(1), 16);
        sheet.with("A2=A0");
        sheet.ask("A2");
        Due.is("a remembered cell's form", sheet.x.steps(0), 1);
        Due.is("of all", sheet.x.steps(1), 17);
        sheet.x.ask(32);
        Due.is("not by what was refused", sheet.x.steps(0), 1);
        Due.is("steps -1", sheet.x.steps(-1), BAD);
        Due.is("steps 2", sheet.x.steps(2), BAD);
    }

    private static void tooMany() {
        Sheet sheet = new Sheet().with("A0=q1 [A1 A2 A3] 5", "A1=s0 f2 a0 r0 5 r0 20", "A2=s0 f2 a0 r0 5 r0 20",
            "A3=s0 f2 a0 r0 5 r0 20");
        Due.is("more than 2000, not caught", sheet.ask("A0"), "!7@A0:0");
        Due.is("what was worked out wholly", sheet.x.worked(1), 1);
        Due.is("what was worked out wholly", sheet.x.worked(2), 1);
        Due.is("what was not", sheet.x.worked(3), 0);
        Due.is("what was not", sheet.x.worked(0), 0);
        Due.is("stale", sheet.x.stale(), 2);
        // A3 makes 1 + 1 + 10 + 25 + 27 + 400 + 106 steps, and then 106 at once.
        Due.is("as many as are told at once", sheet.x.steps(0), 2 + 2 * 678 + 1 + 570 + 106);
        Due.is("with the others remembered", sheet.ask("A0"), "[5 5 5]");
        Due.is("with the others remembered", sheet.x.worked(3), 1);
        Due.is("with the others remembered", sheet.x.steps(0), 2 + 1 + 1 + 678 + 3 + 4);
    }

    /** Formulas that make 2000 steps, which is not yet too many, and 2001. */
    private static void edgeOf2000() {
        Sheet sheet = new Sheet().with("B0=r0 32", "B1=r1 5 B0", "B2=[B1 B1 B1]");
        Due.is("ask", sheet.x.ask(8), 3);
        Due.is("r0 32", sheet.x.steps(0), 1 + 2 + 1 + 33);
        Due.is("ask", sheet.x.ask(9), 3);
        Due.is("r1 5 B0", sheet.x.steps(0), 1 + 2 + 1 + 34 + 166);
        Due.is("SIZE", sheet.ask("B2"), "!5@B2:0");
        Due.is("SIZE", sheet.x.steps(0), 1 + 3 + 3 * 166);
        String most = "[" + "s1B1".repeat(11) + "s1B0".repeat(3);
        sheet.with("C0=" + most + "D7]", "C1=" + most + "1]");
        Due.is("2000", sheet.x.ask(16), 3);
        Due.is("2000", sheet.x.steps(0), 1 + 11 * 169 + 3 * 36 + 1 + 15 + 16);
        Due.is("2000", sheet.x.steps(0), 2000);
        Due.is("2000", sheet.x.worked(16), 1);
        Due.is("2001", sheet.ask("C1"), "!7@C1:0");
        Due.is("2001", sheet.x.steps(0), 2001);
        Due.is("2001", sheet.x.worked(17), 0);
    }

    private static void spent() {
        Sheet sheet = new Sheet().with("A0=f2 a0 r0 22 r0 22", "A1=1", "A2=A2", "A3=2");
        Due.is("remembered later on", sheet.ask("A3"), "2");
        for (int i = 0; i < 19; i++) {
            Due.is("stopped", sheet.ask("A0"), "!7@A0:0");
        }
        int before = sheet.x.steps(1);
        Due.is("less than 40000 so far", before < 40000 ? 1 : 0, 1);
        Due.is("stopped", sheet.ask("A0"), "!7@A0:0");
        Due.is("40000 or more", sheet.x.steps(1) >= 40000 ? 1 : 0, 1);
        int all = sheet.x.steps(1);
        int latest = sheet.x.steps(0);
        Due.is("FULL", sheet.x.ask(0), FULL);
        Due.is("FULL", sheet.x.ask(1), FULL);
        Due.is("BAD ahead of FULL", sheet.x.ask(32), BAD);
        Due.is("steps stay", sheet.x.steps(0), latest);
        Due.is("steps stay", sheet.x.steps(1), all);
        Due.is("the value stays", sheet.x.told(4), 7);
        Due.is("a remembered one", sheet.ask("A3"), "2");
        Due.is("one on a loop", sheet.ask("A2"), "!6@A2:0");
        Due.is("one without a formula", sheet.ask("D0"), "[]");
        Due.is("no steps", sheet.x.steps(0), 0);
        Due.is("changes go on", sheet.enter(3, "3"), 0);
        Due.is("FULL", sheet.x.ask(3), FULL);
    }

    /** 39999 steps of all are not yet too many for another ask(), 40000 are. */
    private static void edgeOf40000(int all, String rest, int due) {
        Sheet sheet = new Sheet().with("B0=r0 32", "B1=r1 5 B0", "A0=7");
        String most = "C0=[" + "s1B1".repeat(11) + "s1B0".repeat(3) + "D7]";
        sheet.x.ask(9);
        for (int i = 0; i < 19; i++) {
            sheet.with(most);
            Due.is("2000 more", sheet.x.ask(16), 3);
        }
        Due.is("so far", sheet.x.steps(1), 241 + 19 * 2000);
        sheet.with("C1=[" + "s1B1".repeat(10) + rest + "]");
        Due.is("the rest", sheet.x.ask(17), 3);
        Due.is("all", sheet.x.steps(1), all);
        Due.is("one more at " + all, sheet.x.ask(0), due);
    }

    /** Cells that need one another, each formula as deep as it may be. */
    private static void deep() {
        Sheet sheet = new Sheet();
        for (int cell = 0; cell < 31; cell++) {
            String next = "" + (char) ('A' + (cell + 1) / 8) + (cell + 1) % 8;
            sheet.with("" + (char) ('A' + cell / 8) + cell % 8 + "=" + "n0".repeat(10) + next);
        }
        sheet.with("D7=5");
        Due.is("320 forms deep", sheet.ask("A0"), "5");
        Due.is("320 forms deep", sheet.x.steps(0), 31 * (10 * 3 + 1) + 2);
        Due.is("all worked out", sheet.x.stale(), 0);
        Due.is("needs", sheet.x.needs(0, 31), 2);
    }

    public static void main(String[] args) {
        needs();
        loops();
        remembered();
        ofSorts();
        steps();
        stepsOfCells();
        tooMany();
        edgeOf2000();
        spent();
        edgeOf40000(39999, "s1B0 1 1", 0);
        edgeOf40000(40000, "s1B0D7D7D7", FULL);
        deep();
        Due.end("CellsTest");
    }
}
