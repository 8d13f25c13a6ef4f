/** Counts what is not as it is due. */
final class Due {
    private static int looked = 0;
    private static int wrong = 0;

    private Due() {
    }

    static void is(String what, long got, long want) {
        looked++;
        if (got != want) {
            wrong++;
            System.out.println(what + " answered " + got + ", due is " + want);
        }
    }

    static void is(String what, String got, String want) {
        looked++;
        if (!got.equals(want)) {
            wrong++;
            System.out.println(what + " is " + got + ", due is " + want);
        }
    }

    /** The value of a formula, and where it matters its failure's cell and place: "!3@A0:0". */
    static void value(String formula, String want) {
        is(formula, Sheet.value(formula), want);
    }

    static void steps(String formula, int want) {
        is("steps of " + formula, Sheet.steps(formula), want);
    }

    static void end(String test) {
        System.out.println(test + ": " + looked + " looked at, " + wrong + " wrong");
        System.exit(wrong == 0 ? 0 : 1);
    }
}
