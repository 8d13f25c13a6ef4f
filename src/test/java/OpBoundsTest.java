/** Terms, part 3, its second half: each bound of the OPS, on both of its sides; one function for each sentence. */
public final class OpBoundsTest {
    private static final String LOWEST = "a2 n0 2147483648 4294967296";
    private static final String HIGHEST = "a1 " + LOWEST + " 1";
    private static final String NAN = "a3 0.0 0";
    private static final String INFINITE = "a3 1.0 0";
    private static final String MAX = "9223372036854775807";
    private static final String MIN = "-9223372036854775808";

    private static String real(double d) {
        return Sheet.real(d);
    }

    /** A formula for a double that is whole, perhaps too large for 15 digits: cells B0, B1, .. stand for its parts. */
    private static void pair(String want, String op, String first, String second) {
        Due.last(want, "B0=" + first, "B1=" + second, "A0=" + op + " B0 B1");
    }

    /** "an ARRAY with a LEAF: each VALUE with that; two ARRAYS of as many VALUES (else LENGTH): VALUE by VALUE" */
    private static void lengths() {
        for (String op : new String[] {"a0", "a1", "a2", "a3", "a4", "a5", "a6", "c0", "c1", "c2"}) {
            Due.value(op + "[][]", "[]");
            Due.value(op + "[]7", "[]");
            Due.value(op + "'a[]", "[]");
            Due.value(op + "[][1]", "!2@A0:0");
            Due.value(op + "[1][]", "!2@A0:0");
            Due.value(op + "[1 2][1]", "!2@A0:0");
            Due.value(op + "[1][1 2]", "!2@A0:0");
            Due.in(3, "A0=" + op + "[1 2][1 2]");
            Due.in(3, "A0=" + op + "[1 2]1");
            Due.in(3, "A0=" + op + " 1[1 2]");
            Due.in(4, "A0=" + op + "[[1 2]][1]");
            Due.value(op + "[[1 2]][[1]]", "!2@A0:0");
            Due.value(op + "['a][1 2]", "!2@A0:0");
        }
        Due.value("a1[5 6][1 2]", "[4 4]");
        Due.value("a1[5 6]1", "[4 5]");
        Due.value("a1 1[5 6]", "[-4 -5]");
        Due.value("a1[5[6 7]][[1 2]3]", "[[4 3] [3 4]]");
        Due.in(33, "A0=a0 r0 32 r0 32");
    }

    /** "from the left, the first FAILURE ends it" */
    private static void firstOfPairs() {
        Due.value("a3[1 1 1][1 0'a]", "!3@A0:0");
        Due.value("a3[1 1 1][1'a 0]", "!1@A0:0");
        Due.value("a3[1[1]1][1[1 2]0]", "!2@A0:0");
        Due.value("a3[1 1[1]][1 0[1 2]]", "!3@A0:0");
        Due.value("a3[1[1 1]][1[1 0]]", "!3@A0:0");
        Due.value("a3[1[1 1]][1[1 1]]", "[1 [1 1]]");
    }

    /** "of WHOLES (64 bits, going round; a3 cut toward 0, a4 with the sign of the first; ZERO by 0)" */
    private static void wholes() {
        pair(MIN, "a0", HIGHEST, "1");
        pair(MAX, "a0", HIGHEST, "0");
        pair("-2", "a0", HIGHEST, HIGHEST);
        pair("0", "a0", LOWEST, LOWEST);
        pair("-1", "a0", LOWEST, HIGHEST);
        pair(MAX, "a1", LOWEST, "1");
        pair(MIN, "a1", LOWEST, "0");
        pair(MIN, "a1", "0", LOWEST);
        pair("-" + MAX, "a1", "0", HIGHEST);
        pair("-2", "a2", HIGHEST, "2");
        pair("0", "a2", LOWEST, "2");
        pair(MIN, "a2", LOWEST, "n0 1");
        pair("1", "a2", HIGHEST, HIGHEST);
        pair(MIN, "a3", LOWEST, "n0 1");
        pair(MIN, "a3", LOWEST, "1");
        pair("1", "a3", LOWEST, LOWEST);
        pair("0", "a3", HIGHEST, LOWEST);
        pair("-1", "a3", LOWEST, HIGHEST);
        pair("!3@A0:0", "a3", LOWEST, "0");
        pair("!3@A0:0", "a3", "0", "0");
        pair("0", "a3", "0", "5");
        pair("0", "a4", LOWEST, "n0 1");
        pair("-1", "a4", LOWEST, HIGHEST);
        pair(MAX, "a4", HIGHEST, LOWEST);
        pair("!3@A0:0", "a4", "5", "0");
        pair("!3@A0:0", "a4", "0", "0");
        for (int a = -3; a <= 3; a++) {
            for (int b = -3; b <= 3; b++) {
                String x = a < 0 ? "n0 " + -a : "" + a;
                String y = b < 0 ? "n0 " + -b : "" + b;
                pair("" + (a + b), "a0", x, y);
                pair("" + (a - b), "a1", x, y);
                pair("" + a * b, "a2", x, y);
                pair(b == 0 ? "!3@A0:0" : "" + a / b, "a3", x, y);
                pair(b == 0 ? "!3@A0:0" : "" + a % b, "a4", x, y);
                pair("" + Math.min(a, b), "a5", x, y);
                pair("" + Math.max(a, b), "a6", x, y);
                pair(a == b ? "1" : "0", "c0", x, y);
                pair(a < b ? "1" : "0", "c1", x, y);
                pair(a <= b ? "1" : "0", "c2", x, y);
            }
        }
        pair(MIN, "a5", LOWEST, HIGHEST);
        pair(MAX, "a6", LOWEST, HIGHEST);
        pair("1", "c1", LOWEST, HIGHEST);
    }

    private static final String[] DOUBLES = {"0.0", "n0 0.0", "1.0", "n0 1.0", "0.5", "3.0", "n0 2.5", INFINITE,
        "a3 n0 1.0 0", NAN, "99999999999999.9", "0.00000000000001"};

    private static double number(String text) {
        switch (text) {
            case INFINITE:
                return Double.POSITIVE_INFINITY;
            case "a3 n0 1.0 0":
                return Double.NEGATIVE_INFINITY;
            case NAN:
                return Double.NaN;
            case "99999999999999.9":
                return 999999999999999.0 / 10.0;
            default:
                return text.startsWith("n0 ") ? -Double.parseDouble(text.substring(3)) : Double.parseDouble(text);
        }
    }

    private static void doublesBy(String x, String y, double a, double b) {
        pair(real(a + b), "a0", x, y);
        pair(real(a - b), "a1", x, y);
        pair(real(a * b), "a2", x, y);
        pair(real(a / b), "a3", x, y);
        pair(real(a % b), "a4", x, y);
        pair(real(Math.min(a, b)), "a5", x, y);
        pair(real(Math.max(a, b)), "a6", x, y);
    }

    /** "of REALS, of both, the WHOLE made the nearest REAL: as doubles go (a4 as the language has it; ..)" */
    private static void doubles() {
        for (String x : DOUBLES) {
            for (String y : DOUBLES) {
                doublesBy(x, y, number(x), number(y));
            }
            doublesBy(x, "0", number(x), 0.0);
            doublesBy("0", x, 0.0, number(x));
            doublesBy(x, "n0 3", number(x), -3.0);
            doublesBy("7", x, 7.0, number(x));
            doublesBy(x, "9007199254740993", number(x), 9007199254740992.0);
            doublesBy(HIGHEST, x, 9223372036854775807.0, number(x));
        }
    }

    /** "the WHOLE made the nearest REAL" at the ends of what a double holds exactly */
    private static void nearest() {
        long[] wholes = {9007199254740991L, 9007199254740992L, 9007199254740993L, 9007199254740994L,
            9007199254740995L, 18014398509481983L, 18014398509481985L, 18014398509481986L, 18014398509481987L};
        for (long whole : wholes) {
            Due.value("n5 " + whole, real((double) whole));
            Due.value("n5 n0 " + whole, real((double) -whole));
            Due.value("a0 0.0 " + whole, real((double) whole));
        }
        Due.value("n5 " + HIGHEST, real(9223372036854775808.0));
        Due.value("n5 " + LOWEST, real(-9223372036854775808.0));
        Due.value("n5 0", real(0.0));
        Due.value("n5 n0 1", real(-1.0));
    }

    /** "as doubles go" at their ends: the largest, the smallest, and what is just beyond each */
    private static void endsOfDoubles() {
        double large = 0x1p1023;
        double unit = 0x1p-52;
        double smallest = Double.MIN_VALUE;
        double largest = Double.MAX_VALUE;
        double half = large * unit * 0.5;
        endOf("C0", unit);
        endOf("C2", smallest);
        endOf("C3", largest);
        endOf("C4", half);
        endOf("a0 C3 C4", largest + half);
        endOf("a0 C3 a2 C4 0.99999999999999", largest + half * 0.99999999999999);
        endOf("a0 C3 a1 C4 a2 C4 C0", largest + (half - half * unit));
        endOf("a0 C3 C3", largest + largest);
        endOf("a2 C3 1.00000000000001", largest * 1.00000000000001);
        endOf("a2 C3 0.99999999999999", largest * 0.99999999999999);
        endOf("a3 C3 0.5", largest / 0.5);
        endOf("a1 n0 C3 C4", -largest - half);
        endOf("a2 C2 0.5", smallest * 0.5);
        endOf("a2 C2 0.50000000000001", smallest * 0.50000000000001);
        endOf("a2 C2 1.5", smallest * 1.5);
        endOf("a2 C2 1.49999999999999", smallest * 1.49999999999999);
        endOf("a2 n0 C2 0.5", -smallest * 0.5);
        endOf("a3 C2 2", smallest / 2);
        endOf("a3 C2 1.99999999999999", smallest / 1.99999999999999);
        endOf("a3 C2 C3", smallest / largest);
        endOf("a3 C3 C2", largest / smallest);
        endOf("a1 a2 2.0 C1 C2", 2.0 * (1.0 / large) - smallest);
        endOf("a0 C2 C2", smallest + smallest);
        endOf("a1 C2 C2", 0.0);
        endOf("a0 n0 C2 C2", 0.0);
        endOf("a4 C3 C2", largest % smallest);
        endOf("a4 C3 3", largest % 3);
        endOf("a4 C3 a2 3.0 C2", largest % (3.0 * smallest));
        endOf("a4 n0 C3 C4", -largest % half);
        endOf("a4 C2 C3", smallest % largest);
        endOf("a5 C2 0", 0.0);
        endOf("a6 n0 C2 0", 0.0);
        endOf("n3 C2", 0.0);
        endOf("n3 n0 C2", -1.0);
        endOf("n3 C3", largest);
        Due.is("n4", ends().with("A0=[n4 C2 n4 C3 n4 n0 C3]").ask("A0"), "[0 " + MAX + " " + MIN + "]");
        Due.is("c1", ends().with("A0=[c1 0 C2 c1 n0 C2 0 c1 C2 1 c0 C2 0]").ask("A0"), "[1 1 1 0]");
    }

    /** C0 is 2 to -52, C2 the smallest double above 0, C3 the largest one, C4 half of its last bit. */
    private static Sheet ends() {
        return new Sheet().with("B0=f0a2 1.0 r1 31 2.0", "B1=f0a2 1.0 r1 32 B0", "B2=a2 B1 B0",
            "C0=a3 1.0 a2 4194304.0 1073741824", "C1=a3 1.0 B2", "C2=a2 C1 a2 2.0 C0", "C3=a2 B2 a1 2.0 C0",
            "C4=a2 a2 B2 C0 0.5");
    }

    private static void endOf(String formula, double due) {
        Due.is(formula, ends().with("A0=" + formula).ask("A0"), real(due));
    }

    /** "KIND: a SIGN in others": of a SIGN with any LEAF; no matter on which side */
    private static void signsInPairs() {
        for (String other : new String[] {"0", "1", "1.5", "'a"}) {
            for (int i = 0; i <= 6; i++) {
                Due.value("a" + i + "'a " + other, "!1@A0:0");
                Due.value("a" + i + " " + other + "'a", "!1@A0:0");
            }
        }
        for (int i = 0; i <= 2; i++) {
            for (String other : new String[] {"0", "97", "97.0"}) {
                Due.value("c" + i + "'a " + other, "!1@A0:0");
                Due.value("c" + i + " " + other + "'a", "!1@A0:0");
            }
            Due.value("c" + i + "'a'a", i == 1 ? "0" : "1");
            Due.value("c" + i + "'a'b", i == 0 ? "0" : "1");
            Due.value("c" + i + "'b'a", "0");
            Due.value("c" + i + "' '~", i == 0 ? "0" : "1");
        }
    }

    private static void compared(int order, String x, String y) {
        pair(order == 0 ? "1" : "0", "c0", x, y);
        pair(order < 0 ? "1" : "0", "c1", x, y);
        pair(order <= 0 ? "1" : "0", "c2", x, y);
        pair(order == 0 ? "1" : "0", "c0", y, x);
        pair(order > 0 ? "1" : "0", "c1", y, x);
        pair(order >= 0 ? "1" : "0", "c2", y, x);
    }

    /** "by ORDER, but a WHOLE and a REAL of one number (-0.0 is 0) are the same" */
    private static void comparisons() {
        compared(0, "1", "1.0");
        compared(-1, "1", "1.00000000000001");
        compared(1, "1", "0.99999999999999");
        compared(0, "0", "0.0");
        compared(0, "0", "n0 0.0");
        compared(-1, "n0 0.0", "0.0");
        compared(0, "0.0", "0.0");
        compared(-1, "0", "0.00000000000001");
        compared(1, "0", "n0 0.00000000000001");
        compared(0, "n0 1", "n0 1.0");
        compared(0, "9007199254740992", "n5 9007199254740992");
        compared(1, "9007199254740993", "n5 9007199254740992");
        compared(-1, "9007199254740991", "n5 9007199254740992");
        compared(-1, HIGHEST, "a2 2147483648.0 4294967296");
        compared(0, LOWEST, "a2 n0 2147483648.0 4294967296");
        compared(1, "a1 " + LOWEST + " n0 1", "a2 n0 2147483648.0 4294967296");
        compared(-1, HIGHEST, INFINITE);
        compared(1, LOWEST, "a3 n0 1.0 0");
        compared(-1, HIGHEST, NAN);
        compared(-1, INFINITE, NAN);
        compared(0, NAN, "a3 0 0.0");
        compared(0, INFINITE, "a3 2.0 0");
        compared(-1, "1.0", "1.00000000000001");
    }

    /** "n0 less than 0 by as much (..), n1 without sign, both of WHOLES (going round), REALS" */
    private static void n0n1() {
        Due.value("n0 0", "0");
        Due.value("n0 1", "-1");
        Due.value("n0 n0 1", "1");
        Due.value("n0 " + LOWEST, MIN);
        Due.value("n0 " + HIGHEST, "-" + MAX);
        Due.value("n0 0.0", real(-0.0));
        Due.value("n0 n0 0.0", real(0.0));
        Due.value("n0 1.5", real(-1.5));
        Due.value("n0 " + INFINITE, real(Double.NEGATIVE_INFINITY));
        Due.value("n0 " + NAN, real(Double.NaN));
        Due.value("n1 0", "0");
        Due.value("n1 1", "1");
        Due.value("n1 n0 1", "1");
        Due.value("n1 " + LOWEST, MIN);
        Due.value("n1 n0 " + HIGHEST, MAX);
        Due.value("n1 n0 0.0", real(0.0));
        Due.value("n1 n0 1.5", real(1.5));
        Due.value("n1 a3 n0 1.0 0", real(Double.POSITIVE_INFINITY));
        Due.value("n0'a", "!1@A0:0");
        Due.value("n1'a", "!1@A0:0");
    }

    /** "n2 1 of the WHOLE 0, 0 of all other LEAVES" */
    private static void n2() {
        Due.value("n2 0", "1");
        for (String other : new String[] {"1", "n0 1", "0.0", "n0 0.0", NAN, "'0", "' ", LOWEST}) {
            Due.value("n2 " + other, "0");
        }
    }

    /** "n3 a REAL rounded down" */
    private static void n3() {
        String[] texts = {"0.0", "n0 0.0", "0.00000000000001", "n0 0.00000000000001", "0.99999999999999", "1.0",
            "n0 1.0", "1.5", "n0 1.5", "n0 0.99999999999999", "n0 1.00000000000001", "99999999999999.9",
            "n0 99999999999999.9"};
        for (String text : texts) {
            double d = text.startsWith("n0 ") ? -number(text.substring(3)) : number(text);
            Due.value("n3 " + text, real(Math.floor(d)));
        }
        Due.value("n3 n5 9007199254740993", real(9007199254740992.0));
        Due.value("n3 a3 n5 9007199254740991 2", real(4503599627370495.0));
        Due.value("n3 n0 a3 n5 9007199254740991 2", real(-4503599627370496.0));
        Due.value("n3 a3 n5 4503599627370497 2", real(2251799813685248.0));
        Due.value("n3 " + INFINITE, real(Double.POSITIVE_INFINITY));
        Due.value("n3 a3 n0 1.0 0", real(Double.NEGATIVE_INFINITY));
        Due.value("n3 " + NAN, real(Double.NaN));
        Due.value("n3 1", "!1@A0:0");
        Due.value("n3'a", "!1@A0:0");
    }

    /** "n4 a REAL to a WHOLE, as the language casts" */
    private static void n4() {
        Due.value("n4 0.0", "0");
        Due.value("n4 n0 0.0", "0");
        Due.value("n4 0.99999999999999", "0");
        Due.value("n4 1.0", "1");
        Due.value("n4 n0 0.99999999999999", "0");
        Due.value("n4 n0 1.0", "-1");
        Due.value("n4 n0 1.99999999999999", "-1");
        Due.value("n4 n5 9007199254740993", "9007199254740992");
        Due.value("n4 a2 2147483648.0 4294967296", MAX);
        Due.value("n4 a2 2147483648.0 4294967295", "9223372034707292160");
        Due.value("n4 a2 n0 2147483648.0 4294967296", MIN);
        Due.value("n4 a2 n0 2147483648.0 4294967295", "-9223372034707292160");
        Due.value("n4 a2 n0 2147483648.0 4294967298", MIN);
        Due.value("n4 n5 a1 " + HIGHEST + " 511", MAX);
        Due.value("n4 n5 a1 " + HIGHEST + " 512", "9223372036854774784");
        Due.value("n4 " + INFINITE, MAX);
        Due.value("n4 a3 n0 1.0 0", MIN);
        Due.value("n4 " + NAN, "0");
        Due.value("n4 0", "!1@A0:0");
        Due.value("n4'a", "!1@A0:0");
    }

    /** "n5 a WHOLE to the nearest REAL; n6 a SIGN's number; n7 the SIGN of a WHOLE (INDEX: not 32 .. 126)" */
    private static void n5n6n7() {
        Due.value("n5 0.0", "!1@A0:0");
        Due.value("n5'a", "!1@A0:0");
        Due.value("n6' ", "32");
        Due.value("n6'~", "126");
        Due.value("n6 97", "!1@A0:0");
        Due.value("n6 97.0", "!1@A0:0");
        Due.value("n7 31", "!4@A0:0");
        Due.value("n7 32", "' ");
        Due.value("n7 126", "'~");
        Due.value("n7 127", "!4@A0:0");
        Due.value("n7 n0 32", "!4@A0:0");
        Due.value("n7 " + LOWEST, "!4@A0:0");
        Due.value("n7 a0 97 4294967296", "!4@A0:0");
        Due.value("n7 97.0", "!1@A0:0");
        Due.value("n7'a", "!1@A0:0");
    }

    /** "KIND: other LEAVES": which of a WHOLE, a REAL, a SIGN each of the eight takes */
    private static void kindsOfN() {
        String[] leaves = {"97", "97.0", "'a"};
        String[] taken = {"110", "110", "111", "010", "010", "100", "001", "100"};
        for (int i = 0; i < taken.length; i++) {
            for (int k = 0; k < leaves.length; k++) {
                Sheet sheet = Due.asked("A0= n" + i + " " + leaves[k]);
                boolean takes = taken[i].charAt(k) == '1';
                Due.is("n" + i + " takes " + leaves[k], sheet.x.told(0) == 4 ? 0 : 1, takes ? 1 : 0);
                Due.is("KIND of n" + i + " " + leaves[k], takes ? "" : sheet.shown(), takes ? "" : "!1@A0:1");
                Due.value("n" + i + "[[" + leaves[k] + "]7 a3 1 0]", "!3@A0:" + (leaves[k].length() + 7));
            }
        }
    }

    /** "of an ARRAY on each VALUE in it likewise" */
    private static void onArrays() {
        for (int i = 0; i <= 7; i++) {
            Due.value("n" + i + "[]", "[]");
            Due.value("n" + i + "[[][[]]]", "[[] [[]]]");
        }
        Due.value("n2[0[1 0][[2]]]", "[1 [0 1] [[0]]]");
        Due.value("n7[97 31'a]", "!4@A0:0");
        Due.value("n7[97'a 31]", "!1@A0:0");
        Due.value("n7[97[31]'a]", "!4@A0:0");
        Due.in(33, "A0=n0 r0 32");
    }

    /** "s0 how many VALUES an ARRAY has; s1 how many LEAVES are IN a VALUE; s2 its DEPTH" */
    private static void s0s1s2() {
        Due.value("s0[]", "0");
        Due.value("s0[[]]", "1");
        Due.value("s0 r0 32", "32");
        Due.value("s0 7", "!1@A0:0");
        Due.value("s0 7.5", "!1@A0:0");
        Due.value("s0'a", "!1@A0:0");
        Due.value("s1 7", "1");
        Due.value("s1'a", "1");
        Due.value("s1[]", "0");
        Due.value("s1[[][[]]]", "0");
        Due.value("s1[7[8[9]][]]", "3");
        Due.last("193", "B0=r0 32", "A0=s1[B0 B0 B0 B0 B0 B0 7]");
        Due.value("s2 7", "0");
        Due.value("s2 7.5", "0");
        Due.value("s2'a", "0");
        Due.value("s2[]", "1");
        Due.value("s2[[[[]]]]", "4");
        Due.value("s2[1[2[]]3]", "3");
    }

    /** "s3 the ARRAY of its LEAVES in order; s4 an ARRAY turned round; s5 two joined, a LEAF as an ARRAY of it" */
    private static void s3s4s5() {
        Due.value("s3[]", "[]");
        Due.value("s3[[][[]]]", "[]");
        Due.value("s3 7", "[7]");
        Due.value("s3'a", "['a]");
        Due.value("s3[1[2['a]][]3]", "[1 2 'a 3]");
        Due.in(33, "A0=s3 r1 2 r0 16");
        Due.value("s3 r1 3 r0 11", "!5@A0:0");
        Due.value("s4[]", "[]");
        Due.value("s4[1]", "[1]");
        Due.value("s4[1[2 3]4]", "[4 [2 3] 1]");
        Due.value("s4 7", "!1@A0:0");
        Due.value("s5[][]", "[]");
        Due.value("s5 1[]", "[1]");
        Due.value("s5[]1", "[1]");
        Due.value("s5 1 2", "[1 2]");
        Due.value("s5'a[[1]]", "['a [1]]");
        Due.in(33, "A0=s5 r0 16 r0 16");
        Due.value("s5 r0 16 r0 17", "!5@A0:0");
        Due.value("s5 r0 32 r0 32", "!5@A0:0");
        Due.in(33, "A0=s5 r0 32[]");
    }

    /** "s6 the ARRAY of one VALUE; s7 an ARRAY by ORDER, s8 the numbers .. LIKE ones as they stand; s9 .." */
    private static void s6to9() {
        Due.value("s6 7", "[7]");
        Due.value("s6[]", "[[]]");
        Due.value("s6[[[7]]]", "[[[[7]]]]");
        Due.value("s6[[[[7]]]]", "!5@A0:0");
        Due.value("s7[]", "[]");
        Due.value("s7[7]", "[7]");
        Due.value("s7[2 1]", "[1 2]");
        Due.value("s7 7", "!1@A0:0");
        Due.value("s7[[]'a 1]", "[1 'a []]");
        Due.value("s8[]", "[]");
        Due.value("s8[7]", "[0]");
        Due.value("s8[2 1]", "[1 0]");
        Due.value("s8[1 1 0 1]", "[2 0 1 3]");
        Due.value("s8 r1 5 7", "[0 1 2 3 4]");
        Due.value("s8'a", "!1@A0:0");
        Due.value("s8[[1]1[1]1]", "[1 3 0 2]");
        Due.value("s9[]", "[]");
        Due.value("s9[7]", "[7]");
        Due.value("s9[7 7]", "[7]");
        Due.value("s9 r1 32'a", "['a]");
        Due.in(33, "A0=s9 r0 32");
        Due.value("s9[1 1.0[1][1.0][1]1]", "[1 #3ff0000000000000 [1] [#3ff0000000000000]]");
        Due.value("s9[[]'a[]'a]", "[[] 'a]");
        Due.value("s9 7", "!1@A0:0");
    }

    private static String k(long n) {
        return n < 0 ? "n0 " + -n : "" + n;
    }

    private static String list(int from, int to) {
        StringBuilder text = new StringBuilder("[");
        for (int i = from; i < to; i++) {
            text.append(i > from ? " " : "").append(i);
        }
        return text.append("]").toString();
    }

    /** "i0 VALUE k of an ARRAY (below 0: from its end, -1 the last one; INDEX), i1 its first k .., i2 it without these" */
    private static void i0i1i2() {
        for (int n : new int[] {0, 1, 3, 32}) {
            for (long k : new long[] {-n - 2, -n - 1, -n, -n + 1, -1, 0, 1, n - 1, n, n + 1, 4294967296L, -4294967296L,
                -4294967295L, 4294967297L}) {
                boolean there = k >= -n && k < n;
                boolean many = k >= -n && k <= n;
                Due.value("i0 r0 " + n + " " + k(k), there ? "" + (k < 0 ? n + k : k) : "!4@A0:0");
                Due.value("i1 r0 " + n + " " + k(k), !many ? "!5@A0:0"
                    : k < 0 ? list((int) (n + k), n) : list(0, (int) k));
                Due.value("i2 r0 " + n + " " + k(k), !many ? "[]" : k < 0 ? list(0, (int) (n + k)) : list((int) k, n));
                Due.value("s0 i4 r0 " + n + " " + k(k) + "[]", there ? "" + n : "!4@A0:3");
            }
            for (String far : new String[] {LOWEST, HIGHEST}) {
                Due.last("!4@A0:0", "B0=" + far, "A0=i0 r0 " + n + " B0");
                Due.last("!5@A0:0", "B0=" + far, "A0=i1 r0 " + n + " B0");
                Due.last("[]", "B0=" + far, "A0=i2 r0 " + n + " B0");
                Due.last("!4@A0:0", "B0=" + far, "A0=i4 r0 " + n + " B0 7");
            }
        }
    }

    /** "i3 it with k taken from its beginning to its end, one by one (below 0 the other way)" */
    private static void i3() {
        for (int n : new int[] {1, 2, 3, 32}) {
            for (long k : new long[] {-n - 1, -n, -1, 0, 1, n - 1, n, n + 1, 4294967297L, -4294967297L}) {
                StringBuilder due = new StringBuilder("[");
                for (int i = 0; i < n; i++) {
                    due.append(i > 0 ? " " : "").append(Math.floorMod(k + i, n));
                }
                Due.value("i3 r0 " + n + " " + k(k), due + "]");
            }
        }
        Due.value("i3[]0", "[]");
        Due.value("i3[]1", "[]");
        Due.value("i3[]n0 1", "[]");
        Due.last("[1 2 0]", "B0=" + HIGHEST, "A0=i3 r0 3 B0");
        Due.last("[1 2 0]", "B0=" + LOWEST, "A0=i3 r0 3 B0");
    }

    /** "i4 it with a third in place of VALUE k (INDEX), i5 the first number of a VALUE LIKE a second (-1)" */
    private static void i4i5() {
        Due.value("i4[7 8 9]0'a", "['a 8 9]");
        Due.value("i4[7 8 9]2'a", "[7 8 'a]");
        Due.value("i4[7 8 9]3'a", "!4@A0:0");
        Due.value("i4[7 8 9]n0 1[]", "[7 8 []]");
        Due.value("i4[7 8 9]n0 3[]", "[[] 8 9]");
        Due.value("i4[7 8 9]n0 4[]", "!4@A0:0");
        Due.value("i4[]0 1", "!4@A0:0");
        Due.value("i4[]n0 1 1", "!4@A0:0");
        Due.value("i5[]7", "-1");
        Due.value("i5[7]7", "0");
        Due.value("i5[8 7 7]7", "1");
        Due.value("i5[8]7", "-1");
        Due.value("i5[7.0]7", "-1");
        Due.value("i5[7]7.0", "-1");
        Due.value("i5[0.0]n0 0.0", "-1");
        Due.value("i5[" + NAN + "]a3 0 0.0", "0");
        Due.value("i5[[][7][7 8]][7]", "1");
        Due.value("i5 r0 32 31", "31");
        Due.value("i5[7[]][]", "1");
    }

    /** "KIND: no ARRAY, or k no WHOLE (ahead of all else, from the left)" */
    private static void kindsOfI() {
        for (String op : new String[] {"i0", "i1", "i2", "i3"}) {
            for (String other : new String[] {"7", "7.5", "'a"}) {
                Due.value(op + " " + other + " 0", "!1@A0:0");
                Due.value(op + " " + other + " 99", "!1@A0:0");
                Due.value("i4 " + other + " 0 1", "!1@A0:0");
                Due.value("i5 " + other + " " + other, "!1@A0:0");
            }
            for (String other : new String[] {"0.0", "'a", "[]", "[0]"}) {
                Due.value(op + "[7]" + other, "!1@A0:0");
                Due.value(op + "[]" + other, "!1@A0:0");
                Due.value("i4[7]" + other + " 1", "!1@A0:0");
                Due.value("i4[]" + other + "[[[[]]]]", "!1@A0:0");
            }
        }
    }

    /** "f0 the second FORM is an ARRAY (KIND, behind both FORMS): from the first FORM on, with each VALUE of it" */
    private static void f0() {
        Due.value("f0a1 10[]", "10");
        Due.value("f0a1 10[1]", "9");
        Due.value("f0a1 10[1 2]", "7");
        Due.value("f0a1'a[]", "'a");
        Due.value("f0a1[1][]", "[1]");
        Due.value("f0a1'a[1]", "!1@A0:2");
        Due.value("f0a1 10 1", "!1@A0:0");
        Due.value("f0a1 10'a", "!1@A0:0");
        Due.value("f0a1'a 1", "!1@A0:0");
        Due.value("f0a3 10[1 0'a]", "!3@A0:2");
        Due.value("f0a3 10[1'a 0]", "!1@A0:2");
        Due.value("f0a1 10 r0 32", "-486");
        Due.value("f0a1[10 20][[1 2]3]", "[6 15]");
        Due.value("f0a1[10 20][[1 2][3]]", "!2@A0:2");
    }

    /** "f1 the ARRAY of all that comes so (not of the first FORM)" */
    private static void f1() {
        Due.value("f1a1 10[]", "[]");
        Due.value("f1a1'a[]", "[]");
        Due.value("f1a1 10[1]", "[9]");
        Due.value("f1a1 10[1 2]", "[9 7]");
        Due.value("f1a1 10[[1]2]", "[[9] [7]]");
        Due.value("f1a1 10 1", "!1@A0:0");
        Due.value("f1a3 10[1 0]", "!3@A0:2");
        Due.in(33, "A0=f1a0 0 r0 32");
    }

    /** "f2 of two ARRAYS (KIND) for each VALUE of the first the ARRAY of the OP of it and each of the second" */
    private static void f2() {
        Due.value("f2a1[][]", "[]");
        Due.value("f2a1[][1]", "[]");
        Due.value("f2a1[1][]", "[[]]");
        Due.value("f2a1[1 2][]", "[[] []]");
        Due.value("f2a1[5][1]", "[[4]]");
        Due.value("f2a1[5 6][1 2 3]", "[[4 3 2] [5 4 3]]");
        Due.value("f2a1 5[1]", "!1@A0:0");
        Due.value("f2a1[5]1", "!1@A0:0");
        Due.value("f2a1 5 1", "!1@A0:0");
        Due.value("f2a3[1 2][1 0]", "!3@A0:2");
        Due.value("f2a3[1'a][1 0]", "!3@A0:2");
        Due.value("f2a3['a 1][1 0]", "!1@A0:2");
        Due.value("f2a0[]['a]", "[]");
    }

    /** "f3 of an ARRAY (KIND) the OP of each VALUE and the next one" */
    private static void f3() {
        Due.value("f3a1[]", "[]");
        Due.value("f3a1[5]", "[]");
        Due.value("f3a1['a]", "[]");
        Due.value("f3a1[5 2]", "[3]");
        Due.value("f3a1[5 2 4]", "[3 -2]");
        Due.value("f3a1 5", "!1@A0:0");
        Due.value("f3a1'a", "!1@A0:0");
        Due.value("f3a3[1 0'a]", "!3@A0:2");
        Due.value("f3a3[1'a 0]", "!1@A0:2");
        Due.in(32, "A0=f3a0 r0 32");
    }

    /** "r0 the ARRAY 0, 1, .. of n VALUES (a WHOLE, KIND; SIZE: not 0 .. 32), r1 n (likewise) times the second" */
    private static void r0r1() {
        for (String op : new String[] {"r0 ", "r1 "}) {
            String behind = op.equals("r1 ") ? " 7" : "";
            Due.value(op + "0" + behind, "[]");
            Due.value(op + "n0 1" + behind, "!5@A0:0");
            Due.value(op + "33" + behind, "!5@A0:0");
            Due.value(op + "4294967296" + behind, "!5@A0:0");
            Due.value(op + "4294967297" + behind, "!5@A0:0");
            Due.last("!5@A0:0", "B0=" + LOWEST, "A0=" + op + "B0" + behind);
            Due.last("!5@A0:0", "B0=" + HIGHEST, "A0=" + op + "B0" + behind);
            for (String other : new String[] {"1.0", "'a", "[]", "[1]"}) {
                Due.value(op + other + behind, "!1@A0:0");
            }
        }
        Due.value("r0 1", "[0]");
        Due.value("r0 32", list(0, 32));
        Due.value("r1 1 7", "[7]");
        Due.value("s9 r1 32 7", "[7]");
        Due.value("r1 2[]", "[[] []]");
    }

    /** "q0 of a WHOLE (KIND) that is not 0 the second FORM, else the third (the other is not worked out)" */
    private static void q0() {
        Due.value("q0 1 7 8", "7");
        Due.value("q0 0 7 8", "8");
        Due.value("q0 n0 1 7 8", "7");
        Due.last("7", "B0=" + LOWEST, "A0=q0 B0 7 8");
        Due.value("q0 4294967296 7 8", "7");
        for (String other : new String[] {"0.0", "1.0", "'a", "[]", "[0]"}) {
            Due.value("q0 " + other + " 7 8", "!1@A0:0");
        }
        Due.value("q0 a3 1 0 7 8", "!3@A0:3");
        Due.value("q0 1 a3 1 0 8", "!3@A0:5");
        Due.value("q0 0 7 a3 1 0", "!3@A0:7");
        for (int which = 0; which <= 1; which++) {
            Sheet sheet = new Sheet().with("A1=7", "A2=a3 1 0", "A0=q0 " + which + " A1 A2");
            Due.is("q0 " + which, sheet.ask("A0"), which == 1 ? "7" : "!3@A2:0");
            Due.is("the other is not worked out", sheet.x.worked(1), which);
            Due.is("the other is not worked out", sheet.x.worked(2), 1 - which);
        }
    }

    /** "q1 the first FORM, but the second, if that is a FAILURE; q2 the KIND of a FAILURE, 0 of what is none" */
    private static void q1q2() {
        Due.value("q1 7 8", "7");
        Due.value("q1[]8", "[]");
        Due.value("q1 a3 1 0 8", "8");
        Due.value("q1 a3 1 0 a0 1'a", "!1@A0:10");
        Due.value("q1 q1 a3 1 0 a0 1'a 9", "9");
        for (int fails = 0; fails <= 1; fails++) {
            Sheet sheet = new Sheet().with("A1=a3 1 " + (1 - fails), "A2=8", "A0=q1 A1 A2");
            Due.is("q1", sheet.ask("A0"), fails == 1 ? "8" : "1");
            Due.is("the second is worked out only then", sheet.x.worked(2), fails);
        }
        for (String other : new String[] {"0", "7", "0.0", "'a", "[]", "[7]", "D7"}) {
            Due.value("q2 " + other, "0");
        }
        Due.value("q2 a0 1'a", "1");
        Due.value("q2 a0[][1]", "2");
        Due.value("q2 a3 1 0", "3");
        Due.value("q2 i0[]0", "4");
        Due.value("q2 r0 33", "5");
        Due.last("6", "B0=B0", "A0=q2 B0");
        Due.value("q2 q2 a3 1 0", "0");
        Due.value("a0 1 q2 a3 1 0", "4");
    }

    public static void main(String[] args) {
        lengths();
        firstOfPairs();
        wholes();
        doubles();
        nearest();
        endsOfDoubles();
        signsInPairs();
        comparisons();
        n0n1();
        n2();
        n3();
        n4();
        n5n6n7();
        kindsOfN();
        onArrays();
        s0s1s2();
        s3s4s5();
        s6to9();
        i0i1i2();
        i3();
        i4i5();
        kindsOfI();
        f0();
        f1();
        f2();
        f3();
        r0r1();
        q0();
        q1q2();
        Due.end("OpBoundsTest");
    }
}
