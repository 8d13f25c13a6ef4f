/** Terms, part 3, its first half: each bound of STEPS, FAILURES, loops and what is REMEMBERED. */
public final class StepBoundsTest {
    /** "one for each FORM as it begins (of a CELL, too)" and "in the result of a FORM that is no CELL, q0 or q1" */
    private static void stepsOfForms() {
        Due.steps("7", 1 + 1);
        Due.steps("7.5", 1 + 1);
        Due.steps("'a", 1 + 1);
        Due.steps("D7", 1);
        Due.steps("[]", 1 + 1);
        Due.stepsOfLast(1, "B0=r0 32", "A0=B0");
        Due.is("A0=B0", stepsFirst("A0=B0", "B0=7"), 1 + 2);
        Due.is("A0=q0 A1 B0 7", stepsFirst("A0=q0 A1 B0 7", "A1=1", "B0=7"), 1 + 1 + 2 + 1 + 2);
        Due.is("A0=[B0 B0]", stepsFirst("A0=[B0 B0]", "B0=7"), 1 + 1 + 2 + 1 + 2 + 3);
        Due.steps("q0 1 7 8", 1 + 2 + 2);
        Due.steps("q1 7 8", 1 + 2);
        Due.steps("q2 7", 1 + 2 + 1);
        Due.steps("r0 0", 1 + 2 + 1 + 1);
        Due.steps("r0 32", 1 + 2 + 1 + 33);
        Due.steps("r0 33", 1 + 2 + 1);
    }

    /** The steps of A0, when none of the cells was asked for. */
    private static int stepsFirst(String... lines) {
        Sheet sheet = new Sheet().with(lines);
        sheet.x.ask(0);
        return sheet.x.steps(0);
    }

    /** "as many as there are VALUES IN all FORMS .. when these are there and none is a FAILURE" */
    private static void stepsOfParts() {
        Due.steps("[7]", 1 + 2 + 1 + 2);
        Due.steps("[7[8]]", 1 + 2 + (1 + 2 + 1 + 2) + 3 + 4);
        Due.steps("[7 a3 1 0]", 1 + 2 + (1 + 4 + 2));
        Due.steps("s0[7 8]", 1 + 10 + 3 + 1);
        Due.steps("s0 7", 1 + 2 + 1);
        Due.steps("s0 a3 1 0", 1 + (1 + 4 + 2));
        Due.steps("i4[7]0 8", 1 + 6 + 2 + 2 + 4 + 2);
        Due.steps("i4[7]1 8", 1 + 6 + 2 + 2 + 4);
        Due.steps("i4 a3 1 0 0 8", 1 + 7);
        Due.steps("q0 a3 1 0 1 2", 1 + 7);
        Due.steps("q1 a3 1 0 D7", 1 + 7 + 1);
        Due.steps("q2 a3 1 0", 1 + 7 + 1);
        Due.steps("q0 'a 1 2", 1 + 2);
    }

    /** "for each use of its OP by an f as it begins .. IN both VALUES of such a use .. and of such a use" */
    private static void stepsOfUses() {
        int list = 1 + 2 + 2 + 2 + 3;
        Due.steps("f0a0 1[2 3]", 1 + 2 + list + 4 + 2 * (1 + 2 + 1) + 1);
        Due.steps("f1a0 1[2 3]", 1 + 2 + list + 4 + 2 * (1 + 2 + 1) + 3);
        Due.steps("f2a0[2 3][2 3]", 1 + list + list + 6 + 4 * (1 + 2 + 1) + 7);
        Due.steps("f3a0[2 3]", 1 + list + 3 + (1 + 2 + 1) + 2);
        Due.steps("f3a0[]", 1 + 2 + 1 + 1);
        Due.steps("f0a0 1[]", 1 + 2 + 2 + 2 + 1);
        Due.steps("f0a3 1[2 0]", 1 + 2 + list + 4 + (1 + 2 + 1) + (1 + 2));
        Due.steps("f0a3 1[0 2]", 1 + 2 + list + 4 + (1 + 2));
        Due.steps("f0a0[1][2 3]", 1 + 6 + list + 5 + 2 * (1 + 3 + 2) + 2);
        Due.steps("f0a0 1 2", 1 + 2 + 2 + 2);
        Due.steps("f2a0[]2", 1 + 2 + 2 + 2);
        Due.steps("f3a0 2", 1 + 2 + 1);
    }

    /** Forms that make just so many steps, by s1 of remembered arrays: B0 has 33 IN it, B1 166, B2 what is left. */
    private static String forms(int steps) {
        int left = steps % 169 % 36;
        return "s1B1".repeat(steps / 169) + "s1B0".repeat(steps % 169 / 36) + (left > 3 ? "s1B2" : "D7".repeat(left));
    }

    private static int formsIn(int steps) {
        int left = steps % 169 % 36;
        return steps / 169 + steps % 169 / 36 + (left > 3 ? 1 : left);
    }

    /** A sheet whose next ask() has just so many steps behind it when it comes to the rest of the [ in this cell. */
    private static Sheet before(int steps, String cell, String rest) {
        int left = (steps - 1) % 169 % 36;
        Sheet sheet = Due.asked("B0=r0 32", "B1=r1 5 B0", "B2=r0 " + Math.max(0, left - 4));
        return sheet.with(cell + "=[" + forms(steps - 1) + rest + "]");
    }

    private static void stops(int after, int due, String rest) {
        String what = "with " + after + " steps ahead of " + rest;
        Sheet sheet = before(after, "A0", rest);
        int all = sheet.x.steps(1);
        for (int time = 1; time <= 2; time++) {
            Due.is(what, sheet.ask("A0"), "!7@A0:0");
            Due.is("steps " + what, sheet.x.steps(0), due);
            Due.is("all steps " + what, sheet.x.steps(1), all + time * due);
            Due.is("worked out " + what, sheet.x.worked(0), 0);
            Due.is("stale " + what, sheet.x.stale(), 1);
        }
    }

    /** "more than 2000 (what is told here as many at once is made at once)": what goes beyond, and by how much */
    private static void stopsByEachKind() {
        stops(2000, 2001, "D7");
        stops(1998, 2166, "s1B1");
        stops(1999, 2001, "s1B1");
        stops(1833, 2001, "s1B1");
        stops(1834, 2002, "s1B1");
        stops(1996, 2033, "r0 32");
        stops(1997, 2001, "r0 32");
        stops(1999, 2001, "7");
        int list = 1 + 4 + 2 + 3;
        int uses = 1 + 1 + list + 36;
        stops(2000 - uses, 2001, "f1a0B0[0 0]");
        stops(1999 - uses, 2000 + 34, "f1a0B0[0 0]");
        stops(1966 - uses, 2001, "f1a0B0[0 0]");
        stops(1965 - uses, 2000 + 33, "f1a0B0[0 0]");
        stops(1932 - uses, 2001, "f1a0B0[0 0]");
        stops(1931 - uses, 2000 + 34, "f1a0B0[0 0]");
        stops(2001 - uses, 2001, "f1a0B0[0 0]");
    }

    /** 2000 steps are not too many, 2001 are: the last form makes 1 or 2, all else is the same */
    private static void stopsBehind2000() {
        Sheet sheet = before(1968, "A0", "D7");
        Due.is("2000 steps", sheet.x.ask(0), 3);
        Due.is("2000 steps", sheet.x.steps(0), 2000);
        Due.is("2000 steps", sheet.x.worked(0), 1);
        Due.is("2000 steps", sheet.x.stale(), 0);
        Due.is("2000 steps", sheet.x.told(1), formsIn(1967) + 1);
        stops(1968, 2001, "7");
    }

    /** "its VALUE is the FAILURE STEPS (of the CELL asked, PLACE 0); CELLS that were worked out wholly by then are" */
    private static void stoppedInAnother() {
        Sheet sheet = before(2000, "A1", "D7").with("A2=[7]", "A0= q1[A2 A1]7");
        Due.is("stopped in A1", sheet.ask("A0"), "!7@A0:0");
        Due.is("A2 was worked out wholly", sheet.x.worked(2), 1);
        Due.is("A1 was not", sheet.x.worked(1), 0);
        Due.is("A0 was not", sheet.x.worked(0), 0);
        Due.is("A0 and A1 are stale", sheet.x.stale(), 2);
        Due.is("asked itself", sheet.ask("A1"), "!7@A1:0");
        Due.is("A2 is remembered", sheet.ask("A2"), "[7]");
        Due.is("A2 is remembered", sheet.x.steps(0), 0);
        Due.is("q2 catches none of it", sheet.with("A0=q2 A1").ask("A0"), "!7@A0:0");
        // D6 makes 1 step as a form and 2 by its own.
        Sheet whole = before(1997, "A0", "D6").with("D6=7");
        Due.is("D6 ends with step 2000", whole.ask("A0"), "!7@A0:0");
        Due.is("D6 ends with step 2000", whole.x.worked(30), 1);
        Due.is("D6 ends with step 2000", whole.x.stale(), 1);
        Sheet part = before(1998, "A0", "D6").with("D6=7");
        Due.is("D6 ends with step 2001", part.ask("A0"), "!7@A0:0");
        Due.is("D6 ends with step 2001", part.x.worked(30), 0);
        Due.is("D6 ends with step 2001", part.x.stale(), 2);
        Due.is("D6 ends with step 2001", part.x.steps(0), 2001);
        Due.is("then it is remembered by none", part.ask("D6"), "7");
    }

    /** "The FORMS .. are worked out from the left ..; the first FAILURE is its VALUE, and ends it" */
    private static void firstFailure() {
        Due.value("[1 a3 1 0 a0 1'a]", "!3@A0:3");
        Due.value("[a0 1'a a3 1 0]", "!1@A0:1");
        Due.steps("[a0 1'a a3 1 0]", 1 + 7);
        Due.value("a0 a3 1 0 a0 1'a", "!3@A0:3");
        Due.value("a0'a a3 1 0", "!3@A0:5");
        Due.value("i0 7 a3 1 0", "!3@A0:5");
        Due.value("i4[7]'a a3 1 0", "!3@A0:8");
        Due.value("f0a0 1 a3 1 0", "!3@A0:7");
        Due.value("f0a0 a3 1 0 1", "!3@A0:5");
        Due.value("f2a0 1 a3 1 0", "!3@A0:7");
        Due.value("r1 33 a3 1 0", "!3@A0:6");
        Due.value("s5 a3 1 0 a4 1 0", "!3@A0:3");
    }

    /** "What an OP finds is a FAILURE with the PLACE of its letter (.. of an OP used by an f .. that OP's letter)" */
    private static void places() {
        Due.value("   a3 1 0", "!3@A0:3");
        Due.value(" [  [[[[[]]]]] ]", "!5@A0:4");
        Due.value(" [ " + "1 ".repeat(33) + "]", "!5@A0:1");
        Due.value(" f0  a3 1[0]", "!3@A0:5");
        Due.value(" f0  a3 1 0", "!1@A0:1");
        Due.value(" f1  a3 1[0]", "!3@A0:5");
        Due.value(" f1  a3 1 0", "!1@A0:1");
        Due.value(" f2  a3[1][0]", "!3@A0:5");
        Due.value(" f2  a3[1]0", "!1@A0:1");
        Due.value(" f2  a3 1[0]", "!1@A0:1");
        Due.value(" f3  a3[1 0]", "!3@A0:5");
        Due.value(" f3  a3 1", "!1@A0:1");
        Due.value(" f3  a0[[1][1 2]]", "!2@A0:5");
        Due.value(" f3  c0[1'a]", "!1@A0:5");
        Due.last("!3@D7:1", "D7= a3 1 0", "A0=    D7");
    }

    /** "Of several found by one OP the first by its FORMS, where nothing else is told" */
    private static void severalFound() {
        Due.value("i4[7]1[[[[]]]]", "!4@A0:0");
        Due.value("i4 7 0[[[[]]]]", "!1@A0:0");
        Due.value("i4[7]'a[[[[]]]]", "!1@A0:0");
        Due.value("i4[]'a 7", "!1@A0:0");
        Due.value("i0[]'a", "!1@A0:0");
        Due.value("i1[]'a", "!1@A0:0");
        Due.value("a3'a 0", "!1@A0:0");
        Due.value("a4 0'a", "!1@A0:0");
        Due.value("a3['a][0 1]", "!2@A0:0");
        Due.value("r1'a[[[[]]]]", "!1@A0:0");
    }

    /** "A CELL without a formula is the ARRAY without VALUES" */
    private static void empty() {
        Sheet sheet = new Sheet().with("A0=[D7]", "A1=7");
        Due.is("D7", sheet.ask("D7"), "[]");
        Due.is("no steps", sheet.x.steps(0), 0);
        Due.is("not worked out", sheet.x.worked(31), 0);
        Due.is("in another", sheet.ask("A0"), "[[]]");
        Due.is("in another", sheet.x.steps(0), 1 + 1 + 1 + 2);
        Due.is("not worked out", sheet.x.worked(31), 0);
        sheet.with("D7=8");
        Due.is("with a formula", sheet.ask("A0"), "[8]");
        Due.is("with a formula", sheet.x.worked(31), 1);
        sheet.x.clear(31);
        Due.is("without one again", sheet.x.stale(), 2);
        Due.is("without one again", sheet.ask("A0"), "[[]]");
        Due.is("without one again", sheet.x.worked(31), 1);
    }

    /** "ON A LOOP if its formula names it, or a CELL that needs it (also in FORMS that are never worked out)" */
    private static void loops() {
        Due.last("!6@A0:0", "A0= A0");
        Due.last("!6@A0:0", "A0=q0 0 A0 7");
        Due.last("!6@A0:0", "A0=q1 7 A0");
        Due.last("!6@A0:0", "A1=A0", "A0=A1");
        Due.last("!6@A0:0", "A1=q1 7 A0", "A0=q1 7 A1");
        Due.last("!6@A0:0", "A1=A2", "A2=A3", "A3=A0", "A0=7 ", "A0=[7 A1]");
        Due.last("!6@A1:0", "A1=A1", "A0=A1");
        Due.last("7", "A1=A1", "A0=q1 A1 7");
        Due.last("6", "A1=A1", "A0=q2 A1");
        Due.last("7", "A1=A2", "A2=7", "A0=A1");
        Sheet sheet = new Sheet().with("A0=A1", "A1=A0", "A2=A1", "A3=A3", "A4=7");
        Due.is("A0", sheet.ask("A0"), "!6@A0:0");
        Due.is("of no steps", sheet.x.steps(0), 0);
        Due.is("A1", sheet.ask("A1"), "!6@A1:0");
        Due.is("not on it", sheet.x.stale(), 2);
        Due.is("not on it", sheet.ask("A2"), "!6@A1:0");
        Due.is("of one step", sheet.x.steps(0), 1);
        Due.is("remembered", sheet.x.stale(), 1);
        Due.is("worked out", sheet.x.worked(2) * 10 + sheet.x.worked(0) + sheet.x.worked(1), 10);
        Due.is("cleared", sheet.x.clear(0), 2);
        Due.is("no loop any more", sheet.x.stale(), 3);
        Due.is("no loop any more", sheet.ask("A2"), "[]");
        Due.is("undone", sheet.x.undo(), 0);
        Due.is("a loop again", sheet.x.stale(), 2);
        Due.is("a loop again", sheet.ask("A2"), "!6@A1:0");
    }

    /** All 32 CELLS in one loop, and in one row. */
    private static void longLoop() {
        Sheet sheet = new Sheet();
        for (int cell = 0; cell < 32; cell++) {
            int next = (cell + 1) % 32;
            sheet.enter(cell, "" + (char) ('A' + next / 8) + next % 8);
        }
        Due.is("none is stale", sheet.x.stale(), 0);
        Due.is("each is its own", sheet.ask(31), "!6@D7:0");
        Due.is("needs", sheet.x.needs(0, 1), 1);
        Due.is("needs", sheet.x.needs(0, 0), 2);
        sheet.enter(31, "7");
        Due.is("a row of them", sheet.x.stale(), 32);
        Due.is("a row of them", sheet.ask(0), "7");
        Due.is("a row of them", sheet.x.steps(0), 31 + 2);
        Due.is("a row of them", sheet.x.stale(), 0);
        sheet.enter(31, "8");
        Due.is("all forgotten", sheet.x.stale(), 32);
        sheet.ask(16);
        Due.is("half of them", sheet.x.stale(), 16);
    }

    /** "is REMEMBERED then (FAILURES, too), till its formula or one that it needs .. is changed" */
    private static void remembered() {
        Sheet sheet = new Sheet().with("A0=A1", "A1=a3 A2 0", "A2=7", "A3=8", "A4=A4");
        Due.is("a failure", sheet.ask("A0"), "!3@A1:0");
        Due.is("all three", sheet.x.stale(), 1);
        sheet.ask("A0");
        Due.is("remembered", sheet.x.steps(0), 0);
        Due.is("once", sheet.x.worked(0) + sheet.x.worked(1) + sheet.x.worked(2), 3);
        sheet.with("A3=9");
        Due.is("another one", sheet.x.stale(), 1);
        sheet.enter(2, "7 7");
        Due.is("a refused one", sheet.x.stale(), 1);
        sheet.x.clear(20);
        Due.is("a clear of none", sheet.x.stale(), 1);
        sheet.x.type('7', 1);
        sheet.x.enter(32);
        Due.is("a refused enter", sheet.x.stale(), 1);
        sheet.x.enter(0);
        Due.is("its own", sheet.x.stale(), 2);
        sheet.x.undo();
        Due.is("its own undone", sheet.x.stale(), 2);
        sheet.ask("A0");
        Due.is("asked", sheet.x.stale(), 1);
        Due.is("the others were remembered", sheet.x.steps(0), 1);
        sheet.with("A1=a3 A2 0");
        Due.is("one that it needs", sheet.x.stale(), 3);
        sheet.ask("A0");
        sheet.with("A2=8");
        Due.is("one through another", sheet.x.stale(), 4);
        sheet.ask("A0");
        Due.is("undo of all there was", sheet.x.undo(), 2);
        Due.is("undo of all there was", sheet.x.stale(), 4);
        sheet.ask("A0");
        sheet.x.redo();
        Due.is("redo of it", sheet.x.stale(), 4);
        Due.is("worked", sheet.x.worked(0) * 100 + sheet.x.worked(1) * 10 + sheet.x.worked(2), 543);
    }

    /** "all ask() made 40000 STEPS or more together": 39999, 40000; what is to be worked out and what is not */
    private static void spent() {
        for (int all = 39999; all <= 40000; all++) {
            Sheet sheet = new Sheet().with("A0=7", "A1=[D7]", "A2=A2", "A3=A0", "B0=r0 32", "B1=r1 5 B0");
            Due.is("a remembered one", sheet.ask("A0"), "7");
            sheet.x.ask(9);
            spend(sheet, all - sheet.x.steps(1));
            Due.is("so many in all", sheet.x.steps(1), all);
            boolean full = all == 40000;
            Due.is("a remembered one", sheet.ask("A0"), "7");
            Due.is("one on a loop", sheet.ask("A2"), "!6@A2:0");
            Due.is("one without a formula", sheet.ask("D7"), "[]");
            Due.is("one that needs a remembered one", sheet.x.ask(3), full ? -3 : 0);
            Due.is("all then", sheet.x.steps(1), 40000);
            Due.is("the latest then", sheet.x.steps(0), full ? 0 : 1);
            Due.is("one to be worked out", sheet.x.ask(1), -3);
            Due.is("its steps", sheet.x.steps(1), 40000);
            Due.is("not worked out", sheet.x.worked(1), 0);
            Due.is("stale", sheet.x.stale(), full ? 2 : 1);
            Due.is("the value before stays", sheet.shown(), full ? "[]" : "7");
        }
    }

    /** Asks for one formula after the other in C0, until they have made just so many steps. */
    private static void spend(Sheet sheet, int steps) {
        int left = steps;
        while (left > 0) {
            int many = Math.min(11, (left - 2) / 171);
            int few = Math.min(32, (left - 2) / 3);
            String text = many > 0 ? "[" + "s1B1".repeat(many) + "]" : few > 0 ? "[" + "D7".repeat(few) + "]" : "D7";
            int made = many > 0 ? 2 + 171 * many : few > 0 ? 2 + 3 * few : 1;
            sheet.with("C0=" + text);
            sheet.x.ask(16);
            Due.is("steps of " + text, sheet.x.steps(0), made);
            left -= made;
        }
    }

    public static void main(String[] args) {
        stepsOfForms();
        stepsOfParts();
        stepsOfUses();
        stopsByEachKind();
        stopsBehind2000();
        stoppedInAnother();
        firstFailure();
        places();
        severalFound();
        empty();
        loops();
        longLoop();
        remembered();
        spent();
        Due.end("StepBoundsTest");
    }
}
