import java.util.Random;

/** Terms, part 2: each bound of FORMULAS, on both of its sides; one function for each sentence. */
public final class FormulaBoundsTest {
    private static final String NINES = "999999999999999999";

    /** Enters a text where "7" stands: 0 and the text stands, or 1 more than a place and "7" stays. */
    private static void entered(String text, int due) {
        Sheet sheet = new Sheet().with("B5=7");
        sheet.x.ask(13);
        Due.is("enter " + text, sheet.enter(13, text), due);
        Due.is("what stands behind enter " + text, sheet.text(13), due == 0 ? text : "7");
        if (due != 0) {
            Due.is("what is remembered behind enter " + text, sheet.x.stale(), 0);
        }
        Due.is("the tape behind enter " + text, sheet.x.type('1', 1), 1);
    }

    private static void taken(String text) {
        entered(text, 0);
    }

    private static void failsAt(int place, String text) {
        entered(text, place + 1);
    }

    /** "texts of at most 80 bytes 32 .. 126" */
    private static void bytes() {
        taken("7".concat(" ".repeat(79)));
        taken(" ".repeat(79) + "7");
        taken("[" + "'~' ".repeat(19) + "' ]");
        failsAt(0, "~");
        failsAt(0, "!");
        failsAt(1, "7~");
        failsAt(0, "");
    }

    /** "read from the left": each FORM takes what it wants of those that come next */
    private static void fromTheLeft() {
        Due.value("a1 9 4", "5");
        Due.value("a1 a1 9 4 1", "4");
        Due.value("a1 9 a1 4 1", "6");
        Due.value("[a1 9 4 1]", "[5 1]");
        Due.value("[n0 9 4]", "[-9 4]");
        Due.value("q0 1 a1 9 4 7", "5");
        Due.value("i4[1 2]a1 1 1 n0 5", "[-5 2]");
        Due.value("f0a1 9[1 f0a1 5[1 2]]", "6");
        failsAt(0, "]7[");
        failsAt(1, "7a1");
    }

    /** "blanks (32) may stand ahead of each FORM, each ] and each OP, and at the end" */
    private static void blanks() {
        taken("  7");
        taken("7  ");
        taken("[  7]");
        taken("[7  ]");
        taken("[  ]");
        taken("  [7]  ");
        taken("a0  7  8  ");
        taken("  a0 7 8");
        taken("f0  a0 7 8");
        taken("  f0  a0  7  8  ");
        taken("f3  c2  []");
        taken("' ");
        taken("'  ");
        failsAt(1, "a 0 7 8");
        failsAt(1, "f 0a0 7 8");
        failsAt(3, "f0a 0 7 8");
        failsAt(1, "A 0");
        failsAt(2, "1 .5");
        failsAt(2, "1. 5");
        failsAt(2, "1 2");
        failsAt(2, "  ");
    }

    /** "digits, as many as stand there, 1 to 18 (the WHOLE)" */
    private static void digits() {
        taken("0");
        taken("9");
        taken("00");
        taken(NINES.substring(1));
        taken(NINES);
        taken("0".repeat(18));
        failsAt(18, NINES + "9");
        failsAt(18, NINES + "0");
        failsAt(18, "0".repeat(19));
        failsAt(19, "[" + NINES + "9]");
        failsAt(18, NINES + "]");
        failsAt(18, NINES + "/");
        failsAt(18, NINES + ":");
        taken("[" + NINES + " 9]");
        taken("[" + NINES + "A0]");
        taken("[" + NINES + "'9]");
        failsAt(0, "/");
        failsAt(0, ":");
        Due.value(NINES, NINES);
        Due.value("0".repeat(17) + "1", "1");
        Due.value("a0 0 " + NINES, NINES);
    }

    /** "behind them perhaps . and digits, 1 or more, with those ahead 15 at most (the REAL ..)" */
    private static void fractions() {
        taken("1.5");
        failsAt(2, "1.");
        failsAt(2, "1.]");
        failsAt(2, "1..5");
        failsAt(2, "1./");
        failsAt(2, "1.:");
        failsAt(0, ".5");
        failsAt(3, "1.5.5");
        taken("1." + "2".repeat(14));
        failsAt(16, "1." + "2".repeat(15));
        taken("1".repeat(14) + ".5");
        failsAt(16, "1".repeat(14) + ".55");
        failsAt(15, "1".repeat(15) + ".5");
        taken("1".repeat(15));
        failsAt(18, NINES + ".5");
        failsAt(17, "[1." + "2".repeat(15) + "]");
        taken("[1." + "2".repeat(14) + " 2]");
        taken("1234567.12345678");
        failsAt(16, "1234567.123456789");
        taken("12345678.1234567");
        failsAt(16, "12345678.12345678");
    }

    /** "all digits as a double by 10 to how many are behind the . as a double" */
    private static void fractionsAreQuotients() {
        Due.value("0.0", Sheet.real(0.0));
        Due.value("0.1", Sheet.real(1.0 / 10.0));
        Due.value("1.10", Sheet.real(110.0 / 100.0));
        Due.value("0.00000000000001", Sheet.real(1.0 / 1e14));
        Due.value("9.99999999999999", Sheet.real(999999999999999.0 / 1e14));
        Due.value("99999999999999.9", Sheet.real(999999999999999.0 / 10.0));
        Due.value("00000000000000.0", Sheet.real(0.0));
        for (int behind = 1; behind <= 14; behind++) {
            String all = "314159265358979";
            String text = all.substring(0, 15 - behind) + "." + all.substring(15 - behind);
            Due.value(text, Sheet.real(314159265358979.0 / Double.parseDouble("1e" + behind)));
        }
    }

    /** "' and any byte (the SIGN)" */
    private static void signs() {
        for (char sign = 32; sign <= 126; sign++) {
            taken("'" + sign);
            Due.value("'" + sign, "'" + sign);
        }
        failsAt(1, "'");
        failsAt(2, "['");
        failsAt(3, "[']");
        failsAt(2, "''7");
    }

    /** "a CELL: A .. D, 0 .. 7 (CELLS 0 to 31: 8 for each letter)" */
    private static void cells() {
        for (char letter = 'A'; letter <= 'D'; letter++) {
            for (char digit = '0'; digit <= '7'; digit++) {
                taken("" + letter + digit);
                NestSheet x = new Sheet().with("B5=[" + letter + digit + "]").x;
                int cell = (letter - 'A') * 8 + digit - '0';
                Due.is("B5 names " + letter + digit, x.needs(13, cell), 1);
                Due.is("B5 names no other", x.needs(13, cell == 31 ? 0 : cell + 1), 0);
            }
            failsAt(1, letter + "8");
            failsAt(1, letter + "/");
            failsAt(1, letter + "9");
            failsAt(1, "" + letter);
        }
        failsAt(0, "@0");
        failsAt(0, "E0");
        failsAt(2, "A00");
    }

    /** "[ FORM .. ] (an ARRAY)" */
    private static void lists() {
        taken("[]");
        taken("[7]");
        taken("[7 8]");
        taken("[" + "7 ".repeat(39) + "]");
        failsAt(1, "[");
        failsAt(2, "[7");
        failsAt(1, "[,");
        failsAt(0, "]");
        failsAt(2, "[]]");
        failsAt(2, "[7,8]");
        failsAt(1, "[\\");
        failsAt(2, "[][]");
    }

    private static final String ENDS = "a6c2n7s9i5f3r1q2";

    /** "OPS": the last of each letter and the first behind it, and what is no letter of one */
    private static void opNames() {
        for (int i = 0; i < ENDS.length(); i += 2) {
            String letter = ENDS.substring(i, i + 1);
            char last = ENDS.charAt(i + 1);
            failsAt(2, letter + "0");
            failsAt(2, letter + last);
            failsAt(1, letter + (char) (last + 1));
            failsAt(1, letter + "/");
            failsAt(1, letter);
            failsAt(1, letter + letter);
        }
        for (char letter = 'E'; letter <= '~'; letter++) {
            if (letter != '[' && ENDS.indexOf(letter) < 0) {
                failsAt(0, letter + "0 1 2 3");
            }
        }
    }

    private static void wants(int forms, String op) {
        String text = op;
        for (int i = 0; i < forms; i++) {
            failsAt(text.length(), text);
            text += " 7";
        }
        taken(text);
        failsAt(text.length() + 1, text + " 7");
        failsAt(text.length(), text + "]");
        taken("[" + text + " 7]");
    }

    /** ".. want two; .. one; .. three; .. an OP .. and two FORMS, .. such an OP and one" */
    private static void formsWanted() {
        String two = "a0a1a2a3a4a5a6c0c1c2s5i0i1i2i3i5r1q1";
        String one = "n0n1n2n3n4n5n6n7s0s1s2s3s4s6s7s8s9r0q2";
        for (int i = 0; i < two.length(); i += 2) {
            wants(2, two.substring(i, i + 2));
        }
        for (int i = 0; i < one.length(); i += 2) {
            wants(1, one.substring(i, i + 2));
        }
        wants(3, "i4");
        wants(3, "q0");
        String used = "a0a1a2a3a4a5a6c0c1c2";
        for (int i = 0; i < used.length(); i += 2) {
            wants(2, "f0" + used.substring(i, i + 2));
            wants(2, "f1 " + used.substring(i, i + 2));
            wants(2, "f2" + used.substring(i, i + 2));
            wants(1, "f3" + used.substring(i, i + 2));
        }
    }

    /** "f0, f1, f2 an OP a0 .. a6, c0 .. c2 and two FORMS, f3 such an OP" */
    private static void usedOps() {
        for (char digit = '0'; digit <= '3'; digit++) {
            String f = "f" + digit;
            failsAt(2, f);
            failsAt(3, f + " ");
            failsAt(2, f + "7");
            failsAt(2, f + "[");
            failsAt(2, f + "A0");
            failsAt(3, f + "a");
            failsAt(3, f + "a7");
            failsAt(3, f + "c3");
            for (String other : new String[] {"n0", "s5", "i0", "f0", "r1", "q1", "b0", "d0"}) {
                failsAt(2, f + other + " 1 2");
            }
        }
    }

    /** "A FORM within ten others .. may not be a [ or an OP" */
    private static void withinTen() {
        String[] around = {"[", "n0", "a0 1 ", "q0 1 2 ", "f0a0 1 ", "f3c2", "s5", "i4", "f2a0"};
        for (String one : around) {
            String nine = one.repeat(9);
            String ten = one.repeat(10);
            if (ten.length() > 70) {
                continue;
            }
            failsAt(ten.length(), ten);
            failsAt(ten.length(), ten + "[");
            for (String other : new String[] {"a0", "c0", "n0", "s0", "i0", "f0", "r0", "q0"}) {
                failsAt(ten.length(), ten + other);
                failsAt(nine.length() + 2, nine + other);
            }
            failsAt(nine.length() + 1, nine + "[");
            failsAt(ten.length() + 1, ten + " a0");
            failsAt(ten.length() + 1, ten + "7" + (one.equals("[") ? "" : "["));
        }
        taken("[".repeat(10) + "7 7.5'aA0" + "]".repeat(10));
        taken("[".repeat(10) + "]".repeat(10));
        failsAt(10, "[".repeat(11) + "]".repeat(11));
        taken("n0".repeat(10) + "7.5");
        taken("n0".repeat(10) + "'a");
        taken("n0".repeat(10) + "D7");
        taken("f3a0".repeat(10) + "D7");
        taken("[n0".repeat(5) + "7" + "]".repeat(5));
        failsAt(15, "[n0".repeat(5) + "[7]" + "]".repeat(5));
        taken("[".repeat(9) + "n0 7 n0 8[9]" + "]".repeat(9));
        failsAt(14, "[".repeat(9) + "n0 7[n0 8]" + "]".repeat(9));
    }

    /** "the least place at which no formula, were it of more bytes than 80 too, has the byte .. (or the end)" */
    private static void leastPlace() {
        failsAt(80, " ".repeat(80));
        failsAt(80, "[" + "7 ".repeat(39) + "7");
        failsAt(80, "a0".repeat(10) + " 1".repeat(10) + " ".repeat(40));
        failsAt(80, " ".repeat(78) + "a0");
        failsAt(80, " ".repeat(79) + "'");
        failsAt(80, " ".repeat(79) + "A");
        failsAt(80, " ".repeat(78) + "7.");
        failsAt(79, " ".repeat(78) + "7]");
        failsAt(79, " ".repeat(79) + "]");
        failsAt(79, "[" + "7 ".repeat(39) + "x");
        failsAt(0, "x" + "]".repeat(79));
        failsAt(3, "[7 x y z");
        failsAt(1, "a]x");
    }

    /** What is told to go well so far can be brought to an end: the place is not told too late. */
    private static void notTooLate() {
        Random any = new Random(5);
        String signs = "07 .'A[]acnsifrq0123";
        for (int run = 0; run < 3000; run++) {
            StringBuilder text = new StringBuilder();
            int length = 1 + any.nextInt(14);
            for (int i = 0; i < length; i++) {
                text.append(signs.charAt(any.nextInt(signs.length())));
            }
            int place = new Sheet().enter(0, text.toString()) - 1;
            if (place >= 0) {
                text.setLength(place);
                Due.is("an end for " + text, ended(text.toString()) ? 1 : 0, 1);
            }
        }
    }

    private static boolean ended(String begun) {
        String text = begun;
        for (int i = 0; i < 60; i++) {
            Sheet sheet = new Sheet();
            if (sheet.enter(0, text) == 0) {
                return true;
            }
            String longer = null;
            for (String more : new String[] {"]", " 0", "0", "a0"}) {
                int answer = sheet.enter(1, text + more);
                if (longer == null && (answer == 0 || answer > text.length() + more.length())) {
                    longer = text + more;
                }
            }
            if (longer == null) {
                return false;
            }
            text = longer;
        }
        return false;
    }

    public static void main(String[] args) {
        bytes();
        fromTheLeft();
        blanks();
        digits();
        fractions();
        fractionsAreQuotients();
        signs();
        cells();
        lists();
        opNames();
        formsWanted();
        usedOps();
        withinTen();
        leastPlace();
        notTooLate();
        Due.end("FormulaBoundsTest");
    }
}
