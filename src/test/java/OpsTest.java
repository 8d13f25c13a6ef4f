/** Promise 11, and what the terms tell of it: what each form is worth, and what goes wrong. */
public final class OpsTest {
    private static final String NAN = "a3 0.0 0.0";
    private static final String LOWEST = "a2 n0 2147483648 4294967296";

    private static String real(double d) {
        return Sheet.real(d);
    }

    private static void sums() {
        Due.value("a0 1 2", "3");
        Due.value("a1 1 2", "-1");
        Due.value("a2 3 n0 4", "-12");
        Due.value("a3 7 2", "3");
        Due.value("a3 n0 7 2", "-3");
        Due.value("a3 7 n0 2", "-3");
        Due.value("a4 n0 7 2", "-1");
        Due.value("a4 7 n0 2", "1");
        Due.value("a5 2 n0 3", "-3");
        Due.value("a6 2 n0 3", "2");
        Due.value("a1 " + LOWEST + " 1", "9223372036854775807");
        Due.value("a3 " + LOWEST + " n0 1", "-9223372036854775808");
        Due.value("a4 " + LOWEST + " n0 1", "0");
        Due.value("a2 " + LOWEST + " n0 1", "-9223372036854775808");
        Due.value(" a3 1 0", "!3@A0:1");
        Due.value("a4 0 0", "!3@A0:0");
        Due.value("a3 0 1", "0");
        Due.value("a0 1.5 2.25", real(3.75));
        Due.value("a0 1 2.5", real(3.5));
        Due.value("a0 0.1 0.2", real(0.1 + 0.2));
        Due.value("a1 0.5 1", real(-0.5));
        Due.value("a2 0.1 3", real(0.1 * 3));
        Due.value("a3 1 0.0", real(Double.POSITIVE_INFINITY));
        Due.value("a3 n0 1.0 0", real(Double.NEGATIVE_INFINITY));
        Due.value("a3 0 0.0", real(Double.NaN));
        Due.value("a3 1.0 3", real(1.0 / 3));
        Due.value("a4 n0 7.5 2", real(-1.5));
        Due.value("a4 7.5 0", real(Double.NaN));
        Due.value("a4 1 a3 1.0 0", real(1));
        Due.value("a5 2 1.5", real(1.5));
        Due.value("a5 1 1.5", real(1));
        Due.value("a6 1 1.5", real(1.5));
        Due.value("a6 1 " + NAN, real(Double.NaN));
        Due.value("a5 " + NAN + " 1", real(Double.NaN));
        Due.value("a5 0.0 n0 0.0", real(-0.0));
        Due.value("a6 n0 0.0 0", real(0.0));
        Due.value("a0 999999999999999999 0.0", real(1e18));
        for (int i = 0; i <= 6; i++) {
            Due.value("a" + i + " 1 'a", "!1@A0:0");
            Due.value("a" + i + " 'a 1.5", "!1@A0:0");
            Due.value("a" + i + " 'a 'b", "!1@A0:0");
            Due.value("a" + i + " 'a 0", "!1@A0:0");
            Due.value("a" + i + " 0 'a", "!1@A0:0");
        }
    }

    private static void comparisons() {
        Due.value("[c0 1 1 c0 1 2 c0 2 1]", "[1 0 0]");
        Due.value("[c1 1 1 c1 1 2 c1 2 1]", "[0 1 0]");
        Due.value("[c2 1 1 c2 1 2 c2 2 1]", "[1 1 0]");
        Due.value("[c0 1 1.0 c1 1 1.0 c1 1.0 1 c2 1.0 1 c2 1 1.0]", "[1 0 0 1 1]");
        Due.value("[c0 0 n0 0.0 c0 n0 0.0 0 c1 n0 0.0 0 c2 0 n0 0.0]", "[1 1 0 1]");
        Due.value("[c0 n0 0.0 0.0 c1 n0 0.0 0.0 c2 n0 0.0 0.0 c2 0.0 n0 0.0]", "[0 1 1 0]");
        Due.value("[c0 1 1.5 c1 1 1.5 c1 1.5 1 c1 1.5 2 c1 n0 1.5 n0 1]", "[0 1 0 1 1]");
        Due.value("[c1 9007199254740993 a0 9007199254740992 0.0]", "[0]");
        Due.value("[c1 a0 9007199254740992 0.0 9007199254740993]", "[1]");
        Due.value("c0 9007199254740993 a0 9007199254740992 0.0", "0");
        Due.value("[c0" + NAN + NAN + " c1" + NAN + NAN + " c2" + NAN + NAN + "]", "[1 0 1]");
        Due.value("[c1 1 " + NAN + " c1 " + NAN + " 1 c1 a3 1 0.0 " + NAN + " c0 1 " + NAN + "]", "[1 0 1 0]");
        Due.value("[c0 'a 'a c0 'a 'b c1 'a 'b c1 'b 'a c2 'a 'a c2 'b 'a]", "[1 0 1 0 1 0]");
        for (int i = 0; i <= 2; i++) {
            Due.value("c" + i + " 1 'a", "!1@A0:0");
            Due.value("c" + i + " 'a 1.5", "!1@A0:0");
        }
        Due.value("c1 [1 2 3] 2", "[1 0 0]");
        Due.value("c1 a2 2147483648 4294967296 a2 2147483648 4294967296.0", "1");
    }

    private static void pairing() {
        Due.value("a0 [1 2] 10", "[11 12]");
        Due.value("a1 10 [1 2]", "[9 8]");
        Due.value("a0 [1 2] [10 20]", "[11 22]");
        Due.value("a0 [1 [2 3]] [10 20]", "[11 [22 23]]");
        Due.value("a0 [[1 2] 3] [10 [20 30]]", "[[11 12] [23 33]]");
        Due.value("a0 [] 1", "[]");
        Due.value("a0 'a []", "[]");
        Due.value("a0 [] []", "[]");
        Due.value("a0 [1 2] [1]", "!2@A0:0");
        Due.value("a0 [] [1]", "!2@A0:0");
        Due.value("a0 ['a] [1 2]", "!2@A0:0");
        Due.value("a3 [1 [1 2] 'a] [1 [1] 0]", "!2@A0:0");
        Due.value("a3 [1 2 3] [1 0 'a]", "!3@A0:0");
        Due.value("a3 [1 'b 3] [1 0 0]", "!1@A0:0");
        Due.value("a3 [1 [2]] [1 [0]]", "!3@A0:0");
        Due.value("[1 a0 2 'a]", "!1@A0:3");
        // A row of 13 and 14 leaves, crossed: 14 rows of 13 against 13 leaves and more.
        Sheet sheet = new Sheet().with("A1=r0 13", "A2=r1 8 A1", "A3=s5 A2 r0 8", "A4=s5 r0 8 A2", "A0=a0 A3 A4",
            "A5=a0 A2 A2", "A6=s0 a0 A2 0");
        Due.is("a sum that passes 200", sheet.ask("A0"), "!5@A0:0");
        Due.is("a sum that does not", sheet.x.ask(5), 3);
        Due.is("a sum that does not", sheet.x.told(2), 1 + 8 * 14);
        Due.is("a sum that does not", sheet.ask("A6"), "8");
    }

    private static void singles() {
        Due.value("n0 5", "-5");
        Due.value("n0 " + LOWEST, "-9223372036854775808");
        Due.value("n0 1.5", real(-1.5));
        Due.value("n0 0.0", real(-0.0));
        Due.value("n0 n0 0.0", real(0.0));
        Due.value("n0 'a", "!1@A0:0");
        Due.value("n1 n0 5", "5");
        Due.value("n1 " + LOWEST, "-9223372036854775808");
        Due.value("n1 n0 0.0", real(0.0));
        Due.value("n1 n0 2.5", real(2.5));
        Due.value("n1 'a", "!1@A0:0");
        Due.value("n2 [0 1 0.0 '0 n0 1]", "[1 0 0 0 0]");
        Due.value("n3 [1.5 n0 1.5 2.0 n0 0.5 n0 0.0 0.5]", "[" + real(1) + " " + real(-2) + " " + real(2) + " "
            + real(-1) + " " + real(-0.0) + " " + real(0) + "]");
        Due.value("n3 a3 1 0.0", real(Double.POSITIVE_INFINITY));
        Due.value("n3 " + NAN, real(Double.NaN));
        Due.value("n3 1", "!1@A0:0");
        Due.value("n3 'a", "!1@A0:0");
        Due.value("n4 [1.5 n0 1.5 n0 0.5]", "[1 -1 0]");
        Due.value("n4 [a3 1 0.0 a3 n0 1 0.0 " + NAN + "]", "[9223372036854775807 -9223372036854775808 0]");
        Due.value("n4 a2 4294967296.0 4294967296", "9223372036854775807");
        Due.value("n4 1", "!1@A0:0");
        Due.value("n4 'a", "!1@A0:0");
        Due.value("n5 [1 n0 3]", "[" + real(1) + " " + real(-3) + "]");
        Due.value("n5 9007199254740993", real(9007199254740992.0));
        Due.value("n5 1.0", "!1@A0:0");
        Due.value("n5 'a", "!1@A0:0");
        Due.value("n6 ['a ' '~]", "[97 32 126]");
        Due.value("n6 1", "!1@A0:0");
        Due.value("n6 1.0", "!1@A0:0");
        Due.value("n7 [97 32 126]", "['a '  '~]");
        Due.value("n7 31", "!4@A0:0");
        Due.value("n7 127", "!4@A0:0");
        Due.value("n7 n0 97", "!4@A0:0");
        Due.value("n7 4294967393", "!4@A0:0");
        Due.value("n7 97.0", "!1@A0:0");
        Due.value("n7 'a", "!1@A0:0");
        Due.value("n0 [1 [2 [3]] []]", "[-1 [-2 [-3]] []]");
        Due.value("n7 [97 [5] 'a]", "!4@A0:0");
        Due.value("n7 [97 ['a] 5]", "!1@A0:0");
        Due.value("n0 a3 1 0", "!3@A0:3");
    }

    private static void shapes() {
        Due.value("s0 [1 [2 3]]", "2");
        Due.value("s0 []", "0");
        Due.value("s0 1", "!1@A0:0");
        Due.value("[s1 1 s1 [] s1 [1 [2 3] []]]", "[1 0 3]");
        Due.value("[s2 1 s2 [] s2 [1 [2 3] []] s2[[[[1]]]]]", "[0 1 2 4]");
        Due.value("s3 [1 [2 ['a]] [] 3.0]", "[1 2 'a " + real(3) + "]");
        Due.value("s3 5", "[5]");
        Due.value("s3 []", "[]");
        Due.value("s3 r1 2 r0 16", "[0 1 2 3 4 5 6 7 8 9 10 11 12 13 14 15 0 1 2 3 4 5 6 7 8 9 10 11 12 13 14 15]");
        Due.value("s3 r1 3 r0 11", "!5@A0:0");
        Due.value("s4 [1 [2 3] 4]", "[4 [2 3] 1]");
        Due.value("s4 'a", "!1@A0:0");
        Due.value("s5 [1 2] [3]", "[1 2 3]");
        Due.value("s5 1 2", "[1 2]");
        Due.value("s5 [1] 2", "[1 2]");
        Due.value("s5 1 [[2]]", "[1 [2]]");
        Due.value("s5 [] []", "[]");
        Due.value("s0 s5 r0 16 r0 16", "32");
        Due.value("s5 r0 16 r0 17", "!5@A0:0");
        Due.value("s5 r0 32 1", "!5@A0:0");
        Due.value("s6 1", "[1]");
        Due.value("s6 [1 2]", "[[1 2]]");
        Due.value("s6 s6 s6 s6 1", "[[[[1]]]]");
        Due.value("s6 s6 s6 s6 s6 1", "!5@A0:0");
        Due.value("s7 [3 1 2]", "[1 2 3]");
        Due.value("s7 'a", "!1@A0:0");
        Due.value("s8 [3 1 2 1]", "[1 3 2 0]");
        Due.value("s8 []", "[]");
        Due.value("s8 1.5", "!1@A0:0");
        Due.value("s9 [3 1 3 [1] 1 [1]]", "[3 1 [1]]");
        Due.value("s9 [1 1.0 0.0 n0 0.0 0 1.0]", "[1 " + real(1) + " " + real(0) + " " + real(-0.0) + " 0]");
        Due.value("s9 5", "!1@A0:0");
    }

    private static void order() {
        Due.value("s8 ['b [1] 2 'a 1.5 [] " + NAN + " [0 5] 1 [[]]]", "[8 4 2 6 3 0 5 7 1 9]");
        Due.value("s8 [0.0 0 n0 0.0 n0 1]", "[3 2 1 0]");
        Due.value("s8 [1.0 1 1.0 1]", "[1 3 0 2]");
        Due.value("s8 [" + NAN + " a3 1 0.0 " + NAN + " a3 n0 1.0 0 999999999999999999]", "[3 4 1 0 2]");
        Due.value("s8 [a0 9007199254740992 0.0 9007199254740993 9007199254740992]", "[2 0 1]");
        Due.value("s8 [[1 2] [1] [1 1 1] [0 9 9] [1.0]]", "[3 1 2 0 4]");
        Due.value("s8 [n0 1.5 n0 2 n0 1 n0 0.5 0]", "[1 0 2 3 4]");
        Due.value("s8 [[[]] ['z] [[0]] [5]]", "[3 1 0 2]");
    }

    private static void indexes() {
        Due.value("[i0[7 8 9]0 i0[7 8 9]2 i0[7 8 9]n0 1 i0[7 8 9]n0 3]", "[7 9 9 7]");
        Due.value("i0 [7 8 9] 3", "!4@A0:0");
        Due.value("i0 [7 8 9] n0 4", "!4@A0:0");
        Due.value("i0 [] 0", "!4@A0:0");
        Due.value("i0 [1] 4294967296", "!4@A0:0");
        Due.value("i0 [1] " + LOWEST, "!4@A0:0");
        Due.value("i0 5 0", "!1@A0:0");
        Due.value("i0 [5] 0.0", "!1@A0:0");
        Due.value("i0 [5] [0]", "!1@A0:0");
        Due.value("[i1[7 8 9]0 i1[7 8 9]2 i1[7 8 9]3 i1[7 8 9]n0 2]", "[[] [7 8] [7 8 9] [8 9]]");
        Due.value("i1 [7 8 9] 4", "!5@A0:0");
        Due.value("i1 [7 8 9] n0 4", "!5@A0:0");
        Due.value("i1 [7 8 9] n0 3", "[7 8 9]");
        Due.value("i1 [7] " + LOWEST, "!5@A0:0");
        Due.value("i1 7 1", "!1@A0:0");
        Due.value("i1 [7] 'a", "!1@A0:0");
        Due.value("[i2[7 8 9]0 i2[7 8 9]2 i2[7 8 9]3 i2[7 8 9]n0 2]", "[[7 8 9] [9] [] [7]]");
        Due.value("[i2[7 8 9]4 i2[7 8 9]n0 4 i2[7 8]" + LOWEST + "]", "[[] [] []]");
        Due.value("i2 7 1", "!1@A0:0");
        Due.value("i2 [7] 1.0", "!1@A0:0");
        Due.value("[i3[7 8 9]0 i3[7 8 9]1 i3[7 8 9]n0 1 i3[7 8 9]5 i3[7 8 9]n0 4]",
            "[[7 8 9] [8 9 7] [9 7 8] [9 7 8] [9 7 8]]");
        Due.value("i3 [] 5", "[]");
        Due.value("i3 [7 8 9] " + LOWEST, "[8 9 7]");
        Due.value("i3 1 1", "!1@A0:0");
        Due.value("i3 [1] [1]", "!1@A0:0");
        Due.value("[i4[7 8 9]0 1 i4[7 8 9]n0 1[1] i4[7 8 9]n0 3'a]", "[[1 8 9] [7 8 [1]] ['a 8 9]]");
        Due.value("i4 [7 8] 2 1", "!4@A0:0");
        Due.value("i4 [7 8] n0 3 1", "!4@A0:0");
        Due.value("i4 [] 0 1", "!4@A0:0");
        Due.value("i4 7 0 1", "!1@A0:0");
        Due.value("i4 [7] 0.0 1", "!1@A0:0");
        Due.value("i4 [7] 0 [[[[1]]]]", "!5@A0:0");
        Due.value("i4 [7] 1 [[[[1]]]]", "!4@A0:0");
        Due.value("[i5[7 8 7]7 i5[7 8 7]9 i5[7[8]]i0[[8]]0 i5[]1 i5[1]1.0]", "[0 -1 1 -1 -1]");
        Due.value("i5 [n0 0.0 0.0 0] 0", "2");
        Due.value("i5 7 7", "!1@A0:0");
    }

    private static void repeats() {
        Due.value("r0 0", "[]");
        Due.value("r0 4", "[0 1 2 3]");
        Due.value("s0 r0 32", "32");
        Due.value("r0 33", "!5@A0:0");
        Due.value("r0 n0 1", "!5@A0:0");
        Due.value("r0 4294967297", "!5@A0:0");
        Due.value("r0 1.0", "!1@A0:0");
        Due.value("r0 [1]", "!1@A0:0");
        Due.value("r1 0 5", "[]");
        Due.value("r1 2 [1]", "[[1] [1]]");
        Due.value("r1 33 5", "!5@A0:0");
        Due.value("r1 n0 1 5", "!5@A0:0");
        Due.value("r1 'a 5", "!1@A0:0");
        Due.value("s1 r1 28 r0 6", "168");
        Due.value("s1 r1 28 s5 r0 5 []", "140");
        Due.value("r1 29 r0 6", "!5@A0:0");
        Due.value("r1 1 [[[[1]]]]", "!5@A0:0");
        Due.value("s2 r1 0 [[[[1]]]]", "1");
    }

    private static void folds() {
        Due.value("f0 a0 10 [1 2 3]", "16");
        Due.value("f0 a1 10 [1 2 3]", "4");
        Due.value("f0 a1 10 []", "10");
        Due.value("f0 a0 [1 2] [[10 20] 5]", "[16 27]");
        Due.value("f0 a0 10 5", "!1@A0:0");
        Due.value("f0 a0 'a []", "'a");
        Due.value(" f0  a3 10 [1 0 'a]", "!3@A0:5");
        Due.value("f0 a0 'x a3 1 0", "!3@A0:9");
        Due.value("f0 a0 a3 1 0 'x", "!3@A0:6");
        Due.value("f0 a0 [1 2] [[1]]", "!2@A0:3");
        Due.value("f1 a0 10 [1 2 3]", "[11 13 16]");
        Due.value("f1 a0 10 []", "[]");
        Due.value("f1 a0 10 'a", "!1@A0:0");
        Due.value("f1 a3 10 [1 0]", "!3@A0:3");
        Due.value("f1 a0 r0 9 r0 20", "!5@A0:0");
        Due.value("f2 a2 [1 2] [10 20 30]", "[[10 20 30] [20 40 60]]");
        Due.value("f2 a2 [] [1]", "[]");
        Due.value("f2 a2 [1 2] []", "[[] []]");
        Due.value("f2 a2 1 [1]", "!1@A0:0");
        Due.value("f2 a2 [1] 1", "!1@A0:0");
        Due.value("f2 a3 [1 2] [1 0]", "!3@A0:3");
        Due.value("f2 a0 [1] [[[[1]]]]", "!5@A0:0");
        Due.value("f2 a0 r0 9 r0 22", "!5@A0:0");
        Due.value("s1 f2 a0 r0 9 r0 21", "189");
        Due.value("f3 a1 [1 5 2]", "[-4 3]");
        Due.value("f3 a1 [1]", "[]");
        Due.value("f3 a1 []", "[]");
        Due.value("f3 a1 1", "!1@A0:0");
        Due.value("f3 c1 [1 5 2]", "[1 0]");
        Due.value("f3 a3 [1 5 0 'a]", "!3@A0:3");
        Due.value("f2 c0 ['a 1] ['a]", "!1@A0:3");
    }

    private static void choices() {
        Due.value("q0 1 2 3", "2");
        Due.value("q0 0 2 3", "3");
        Due.value("q0 n0 1 2 3", "2");
        Due.value("q0 1 2 a3 1 0", "2");
        Due.value("q0 0 a3 1 0 3", "3");
        Due.value("q0 0 1 a3 1 0", "!3@A0:7");
        Due.value("q0 'a 2 3", "!1@A0:0");
        Due.value("q0 0.0 2 3", "!1@A0:0");
        Due.value("q0 [] 2 3", "!1@A0:0");
        Due.value("q0 a3 1 0 2 3", "!3@A0:3");
        Due.value("q1 1 2", "1");
        Due.value("q1 a3 1 0 2", "2");
        Due.value("q1 1 a3 1 0", "1");
        Due.value("q1 a3 1 0 a0 'a 1", "!1@A0:10");
        Due.value("q2 1", "0");
        Due.value("[q2 a0 1 'a q2 a0 [] [1] q2 a3 1 0 q2 i0 [] 0 q2 r0 33]", "[1 2 3 4 5]");
        Sheet sheet = new Sheet().with("A1=A1", "A0=q2 [A1]");
        Due.is("q2 of a loop", sheet.ask("A0"), "6");
        Due.value("a0 q1 a3 1 0 5 1", "6");
    }

    private static void arrays() {
        Due.value("[]", "[]");
        Due.value("[1 'a 1.5 [2]]", "[1 'a " + real(1.5) + " [2]]");
        Due.value("[" + "1 ".repeat(32) + "]", "[1" + " 1".repeat(31) + "]");
        Due.value(" [" + "1 ".repeat(33) + "]", "!5@A0:1");
        Due.value("[[[[1]]]]", "[[[[1]]]]");
        Due.value("[[[[]]]]", "[[[[]]]]");
        Due.value("[[[[[]]]]]", "!5@A0:0");
        Due.value("[ [[[[1]]]]]", "!5@A0:0");
        Due.value("[1 a3 1 0 a0 1 'a]", "!3@A0:3");
        Due.value("[a0 1 'a a3 1 0]", "!1@A0:1");
        Due.value("s1 [r1 5 r0 32 r0 31]", "191");
        Sheet sheet = new Sheet().with("B0=r0 32", "B1=[B0 B0 B0 B0 B0 B0]", "B2=[B0 B0 B0 B0 B0 B0 1]",
            "B3=[B0 B0 B0 B0 B0 B0 1 1]");
        Due.is("199", sheet.x.ask(9), 3);
        Due.is("199", sheet.x.told(2), 199);
        Due.is("200", sheet.x.ask(10), 3);
        Due.is("200", sheet.x.told(2), 200);
        Due.is("201", sheet.ask("B3"), "!5@B3:0");
    }

    private static void literals() {
        Due.value("999999999999999999", "999999999999999999");
        Due.value("000000000000000001", "1");
        Due.value("0.1", real(0.1));
        Due.value("1.10", real(1.1));
        Due.value("00.5", real(0.5));
        Due.value("0.00000000000001", real(1.0 / 100000000000000.0));
        Due.value("1.23456789012345", real(123456789012345.0 / 100000000000000.0));
        Due.value("12345678901234.5", real(123456789012345.0 / 10.0));
        Due.value("3.14159265358979", real(314159265358979.0 / 100000000000000.0));
        Due.value("[1'a2.5'''[[]]", "[1 'a " + real(2.5) + " '' '[ []]");
        Due.value("[A1A2]", "[[] []]");
    }

    public static void main(String[] args) {
        sums();
        comparisons();
        pairing();
        singles();
        shapes();
        order();
        indexes();
        repeats();
        folds();
        choices();
        arrays();
        literals();
        Due.end("OpsTest");
    }
}
