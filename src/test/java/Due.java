/** Counts what is not as it is due. */
final class Due {
    private static int looked = 0;
    private static int wrong = 0;

    private Due() {
    }

    static void is(String what, long got, long want) {
        looked++;
        if (got != want) {
            wrong++;
            System.out.println(what + " answered " + got + ", due is " + want);
        }
    }

    static void is(String what, String got, String want) {
        looked++;
        if (!got.equals(want)) {
            wrong++;
            System.out.println(what + " is " + got + ", due is " + want);
        }
    }

    /** The value of a formula, and where it matters its failure's cell and place: "!3@A0:0". */
    static void value(String formula, String want) {
        is(formula, Sheet.value(formula), want);
    }

    /** The value of the last of these cells ("A0=[B0 1]"); the others are asked for ahead of it, from the first on. */
    static void last(String want, String... lines) {
        is(String.join(", ", lines), asked(lines).shown(), want);
    }

    /** How many values are IN the value of the last of these cells. */
    static void in(int want, String... lines) {
        is("IN " + String.join(", ", lines), asked(lines).x.told(2), want);
    }

    /** The DEPTH of the value of the last of these cells. */
    static void depth(int want, String... lines) {
        is("DEPTH of " + String.join(", ", lines), asked(lines).x.told(3), want);
    }

    /** The steps of the ask() for the last of these cells. */
    static void stepsOfLast(int want, String... lines) {
        is("steps of " + String.join(", ", lines), asked(lines).x.steps(0), want);
    }

    static Sheet asked(String... lines) {
        Sheet sheet = new Sheet().with(lines);
        for (String line : lines) {
            sheet.x.ask(Sheet.cell(line));
        }
        return sheet;
    }

    static void steps(String formula, int want) {
        is("steps of " + formula, Sheet.steps(formula), want);
    }

    static void end(String test) {
        System.out.println(test + ": " + looked + " looked at, " + wrong + " wrong");
        System.exit(wrong == 0 ? 0 : 1);
    }
}
