/** Terms, part 1: each bound of VALUES, on both of its sides; one function for each sentence. */
public final class ValueBoundsTest {
    private static final String LOWEST = "a2 n0 2147483648 4294967296";
    private static final String HIGHEST = "a1 " + LOWEST + " 1";
    private static final String NAN = "#7ff8000000000000";
    private static final String ROW = "B0=r0 32";

    private static void sort(int due, boolean leaf, String formula) {
        Sheet sheet = Due.asked("A0=" + formula);
        Due.is("the sort of " + formula, sheet.x.told(0), due);
        // A leaf is what n2 takes itself; an array it goes into, and a failure it hands on.
        Due.is("a leaf: " + formula, sheet.with("A1=n2 A0").x.ask(1) == 0 ? 1 : 0, leaf ? 1 : 0);
    }

    /** "VALUES are LEAVES, ARRAYS, FAILURES. A LEAF is a WHOLE (..), a REAL (..), or a SIGN (..)." */
    private static void sorts() {
        sort(0, true, "7");
        sort(1, true, "7.0");
        sort(2, true, "'7");
        sort(3, false, "[7]");
        sort(3, false, "[]");
        sort(4, false, "a3 7 0");
    }

    /** "IN a VALUE are itself and all that are IN its VALUES" */
    private static void in() {
        Due.in(1, "A0=7");
        Due.in(1, "A0=7.5");
        Due.in(1, "A0='a");
        Due.in(1, "A0=[]");
        Due.in(2, "A0=[7]");
        Due.in(2, "A0=[[]]");
        Due.in(3, "A0=[7 7]");
        Due.in(3, "A0=[[7]]");
        Due.in(7, "A0=[7[8[]]'a 9]");
        Due.in(5, "A1=[7 8]", "A0=[A1 6]");
        Due.in(7, "A1=[7 8]", "A0=[A1 A1]");
    }

    /** "A LEAF is a WHOLE (64 bits)" */
    private static void wholesOf64Bits() {
        Due.value(LOWEST, "-9223372036854775808");
        Due.value(HIGHEST, "9223372036854775807");
        Due.value("a1 " + LOWEST + " 1", "9223372036854775807");
        Due.value("a0 " + HIGHEST + " 1", "-9223372036854775808");
        Due.value("a0 " + HIGHEST + " 0", "9223372036854775807");
        Due.value("a1 " + LOWEST + " 0", "-9223372036854775808");
    }

    /** "all that are no number are one, NaN" */
    private static void oneNan() {
        String[] made = {"a3 0.0 0.0", "a3 0 0.0", "n0 a3 0.0 0.0", "n1 n0 a3 0.0 0.0", "n3 a3 0.0 0.0",
            "a4 1.0 0.0", "a4 a3 1.0 0 2.0", "a2 0.0 a3 1.0 0", "a1 a3 1.0 0 a3 1.0 0", "a0 a3 1.0 0 a3 n0 1.0 0",
            "a3 a3 1.0 0 a3 1.0 0", "a5 1 a3 0.0 0.0", "a6 a3 0.0 0.0 1.0", "a0 1 a3 0.0 0.0"};
        for (String each : made) {
            Due.value(each, NAN);
            Due.last("1", "B0=" + each, "B1=a3 0.0 0", "A0=c0 B0 B1");
            Due.last("[" + NAN + "]", "B0=" + each, "B1=a3 0.0 0", "A0=s9[B0 B1]");
        }
        Due.value("a3 1.0 0", "#7ff0000000000000");
        Due.value("a3 n0 1.0 0", "#fff0000000000000");
    }

    /** "a SIGN (32 .. 126)" */
    private static void signs() {
        Due.value("n7 31", "!4@A0:0");
        Due.value("n7 32", "' ");
        Due.value("n7 126", "'~");
        Due.value("n7 127", "!4@A0:0");
        Due.value("' ", "' ");
        Due.value("'~", "'~");
    }

    /** "An ARRAY has 0 to 32 VALUES", by each form that makes one */
    private static void width() {
        Due.value("[]", "[]");
        Due.in(33, "A0=[" + "1 ".repeat(32) + "]");
        Due.value("[" + "1 ".repeat(33) + "]", "!5@A0:0");
        Due.in(33, "A0=s3 [r0 16 r0 16]");
        Due.value("s3 [r0 16 r0 17]", "!5@A0:0");
        Due.in(33, "A0=s5 r0 31 1");
        Due.value("s5 r0 32 1", "!5@A0:0");
        Due.in(33, "A0=s5 1 r0 31");
        Due.value("s5 1 r0 32", "!5@A0:0");
        Due.in(33, "A0=s5 r0 16 r0 16");
        Due.value("s5 r0 16 r0 17", "!5@A0:0");
        Due.value("r0 0", "[]");
        Due.in(33, "A0=r0 32");
        Due.value("r0 33", "!5@A0:0");
        Due.value("r0 n0 1", "!5@A0:0");
        Due.value("r1 0 7", "[]");
        Due.in(33, "A0=r1 32 7");
        Due.value("r1 33 7", "!5@A0:0");
        Due.value("r1 n0 1 7", "!5@A0:0");
        Due.in(33, "A0=a0 r0 32 1");
        Due.in(33, "A0=f1a0 0 r0 32");
        Due.in(32, "A0=f3a0 r0 32");
        Due.in(65, "A0=f2a0 r0 32[1]");
        Due.in(34, "A0=f2a0[1]r0 32");
        Due.in(33, "A0=s4 r0 32");
        Due.in(33, "A0=s7 r0 32");
        Due.in(33, "A0=s8 r0 32");
        Due.in(33, "A0=s9 r0 32");
        Due.in(33, "A0=i1 r0 32 32");
        Due.in(33, "A0=i2 r0 32 0");
        Due.in(33, "A0=i3 r0 32 1");
        Due.in(33, "A0=i4 r0 32 0 7");
    }

    /** "(no FAILURES)": one in an ARRAY is the VALUE instead of it */
    private static void noFailuresInArrays() {
        Due.value("[1 2]", "[1 2]");
        Due.value("[1 a3 1 0]", "!3@A0:3");
        Due.value("[[a3 1 0]]", "!3@A0:2");
        Due.value("r1 2 a3 1 0", "!3@A0:5");
        Due.value("i4 [1] 0 a3 1 0", "!3@A0:9");
        Due.value("s5 1 a3 1 0", "!3@A0:5");
        Due.value("s6 a3 1 0", "!3@A0:3");
    }

    /** "200 at most", of what is IN an ARRAY: by [ and by the ops that put VALUES together */
    private static void in200() {
        Due.in(200, ROW, "A0=[B0 B0 B0 B0 B0 B0 1]");
        Due.last("!5@A0:0", ROW, "A0=[B0 B0 B0 B0 B0 B0 1 1]");
        Due.last("!5@A0:0", ROW, "A0=[B0 B0 B0 B0 B0 B0 []1]");
        String half = "B1=[B0 B0 B0]";
        Due.in(200, ROW, half, "B2=[B0 B0 B0 1]", "A0=s5 B1 B2");
        Due.last("!5@A0:0", ROW, half, "B2=[B0 B0 B0 1 1]", "A0=s5 B1 B2");
        String almost = "B1=[B0 B0 B0 B0 B0 B0]";
        String most = "B1=[B0 B0 B0 B0 B0 B0 1]";
        Due.in(200, ROW, almost, "A0=s6 B1");
        Due.last("!5@A0:0", ROW, most, "A0=s6 B1");
        Due.in(200, ROW, almost, "A0=s5 1 B1");
        Due.last("!5@A0:0", ROW, most, "A0=s5 1 B1");
        Due.in(200, ROW, almost, "A0=s5 B1 1");
        Due.last("!5@A0:0", ROW, most, "A0=s5 B1 1");
        Due.in(200, ROW, almost, "A0=r1 1 B1");
        Due.last("!5@A0:0", ROW, most, "A0=r1 1 B1");
        Due.in(199, ROW, half, "B2=i1 B1 2", "B3=s5 B2[i1 B0 31]", "A0=r1 2 B3");
        Due.last("!5@A0:0", ROW, half, "A0=r1 2 B1");
        Due.in(200, ROW, almost, "A0=i4[7]0 B1");
        Due.last("!5@A0:0", ROW, most, "A0=i4[7]0 B1");
        for (String op : new String[] {"s4", "s7", "n0", "a0 1", "c0 1", "a1 B1"}) {
            Due.in(200, ROW, most, "A0=" + op + " B1");
        }
        Due.in(200, ROW, most, "A0=i1 B1 7");
        Due.in(200, ROW, most, "A0=i2 B1 0");
        Due.in(200, ROW, most, "A0=i3 B1 3");
        Due.in(200, ROW, most, "A0=i4 B1 6 2");
    }

    /** "each ARRAY so made may be SIZE", of the two-sided ops and of those that use them */
    private static void in200ByPairs() {
        String[] rows = {ROW, "B1=[B0 B0 r0 31]"};
        Due.in(99, rows);
        Due.in(200, ROW, rows[1], "B2=[1 B1 7]", "B3=[B1 1 7]", "A0=a0 B2 B3");
        Due.last("!5@A0:0", ROW, rows[1], "B2=[1 B1 7 7]", "B3=[B1 1 7 7]", "A0=a0 B2 B3");
        Due.in(200, ROW, rows[1], "B2=[1 B1 7]", "B3=[B1 1 7]", "A0=f0a0 B2[0 B3]");
        Due.last("!5@A0:2", ROW, rows[1], "B2=[1 B1 7 7]", "B3=[B1 1 7 7]", "A0=f0a0 B2[0 B3]");
        Due.in(200, ROW, "A0=f1a0 0[1 B0 1 1 1 1 1]");
        Due.last("!5@A0:0", ROW, "A0=f1a0 0[1 1 B0 1 1 1 1 1]");
        Due.in(200, ROW, "A0=f2a0[1][B0 B0 B0 B0 B0 B0]");
        Due.last("!5@A0:0", ROW, "A0=f2a0[1][B0 B0 B0 B0 B0 B0 1]");
        Due.in(200, ROW, "A0=f3a0[1 1 B0 1 B0 1 B0 1]");
        Due.last("!5@A0:0", ROW, "A0=f3a0[1 1 1 B0 1 B0 1 B0 1]");
    }

    /** "the DEPTH of a LEAF is 0, of an ARRAY 1 more than the greatest of its VALUES (1 without any), 4 at most" */
    private static void depth4() {
        Due.depth(0, "A0=7");
        Due.depth(0, "A0=7.5");
        Due.depth(0, "A0='a");
        Due.depth(1, "A0=[]");
        Due.depth(1, "A0=[1 2]");
        Due.depth(2, "A0=[[]]");
        Due.depth(3, "A0=[1[[]][2]]");
        Due.depth(4, "A0=[[[[1]]]]");
        Due.depth(4, "A0=[[[[]]]]");
        Due.value("[[[[[]]]]]", "!5@A0:0");
        Due.value("[ [[[[1]]]]]", "!5@A0:0");
        Due.depth(4, "A0=s6[[[]]]");
        Due.value("s6[[[[]]]]", "!5@A0:0");
        Due.depth(4, "A0=r1 1[[[]]]");
        Due.value("r1 1[[[[]]]]", "!5@A0:0");
        Due.value("r1 0[[[[]]]]", "[]");
        Due.depth(4, "A0=i4[7]0[[[]]]");
        Due.value("i4[7]0[[[[]]]]", "!5@A0:0");
        Due.depth(4, "A0=s5[[[[]]]][[[[]]]]");
        Due.depth(4, "A0=s5 1[[[[]]]]");
        Due.depth(4, "A0=a0[[[[1]]]][1]");
        Due.depth(4, "A0=f1a0[[[1]]][1]");
        Due.value("f1a0[[[[1]]]][1]", "!5@A0:0");
        Due.value("f1a0[[[[1]]]][]", "[]");
        Due.depth(4, "A0=f2a0[[[1]]][1]");
        Due.value("f2a0[[[[1]]]][1]", "!5@A0:0");
        Due.value("f2a0[1][[[[1]]]]", "!5@A0:0");
        Due.depth(4, "A0=f3a0[1[[[1]]]]");
    }

    /** "An ARRAY that would pass one of these three (asked when all its VALUES are there) is the FAILURE SIZE" */
    private static void askedWhenAllAreThere() {
        Due.value("[" + "1 ".repeat(33) + "a3 1 0]", "!3@A0:67");
        Due.value("[[[[[]]]]a3 1 0]", "!3@A0:9");
        Due.value("[[[[[[]]]]]a3 1 0]", "!5@A0:1");
        // Of f2 the first row is one ARRAY: what is too large in it comes ahead of a use in the second.
        Due.last("!5@A0:0", ROW, "A0=f2a3[B0 B0][1 1 1 1 1 1 1]");
        Due.last("!3@A0:2", ROW, "A0=f2a3[B0 1][1 1 1 1 1 0 1]");
        Due.last("!5@A0:0", ROW, "A0=f2a3[B0'a][1 1 1 1 1 1 1]");
        Due.last("!3@A0:2", ROW, "A0=f1a3 B0[1 1 1 1 1 1 0]");
        Due.last("!5@A0:0", ROW, "A0=f1a3 B0[1 1 1 1 1 1 1]");
        String ones = "B0=r1 32 1";
        Due.last("!5@A0:0", ones, "B1=[B0 B0 B0]", "B2=[[1 B1]1]", "B3=[[B1 1]0]", "A0=a3 B2 B3");
        Due.last("!3@A0:0", ones, "B1=[B0 B0 B0]", "B2=[1[1 B1]]", "B3=[0[B1 1]]", "A0=a3 B2 B3");
    }

    /** "A FAILURE has a KIND .., a CELL and a PLACE in its formula" */
    private static void kindCellPlace() {
        String[] lines = {"D7=a0 1'a", "D6=a0[][1]", "D5=a3 1 0", "D4=i0[]0", "D3=r0 33", "D2=D2"};
        for (int kind = 1; kind <= lines.length; kind++) {
            String cell = lines[kind - 1].substring(0, 2);
            Due.last("!" + kind + "@" + cell + ":0", lines[kind - 1], "A0=" + cell);
        }
        Due.value("  a0 1'a", "!1@A0:2");
        Due.value(" ".repeat(76) + "n0'a", "!1@A0:76");
        Due.value(" ".repeat(75) + "r0 33", "!5@A0:75");
    }

    /** Each ahead of all behind it. */
    private static final String[] CHAIN = {
        "a3 n0 1.0 0", LOWEST, "a2 n0 2147483648.0 4294967296", "n0 1.5", "n0 1", "n0 1.0", "n0 0.5", "n0 0.0", "0",
        "0.0", "0.00000000000001", "0.5", "1", "1.0", "9007199254740992", "n5 9007199254740992", "9007199254740993",
        HIGHEST, "a2 2147483648.0 4294967296", "a3 1.0 0", "a3 0.0 0", "' ", "'a", "'~", "[]", "[n0 0.0]", "[0]",
        "[0 0]", "[0 1]", "[0.0]", "[1]", "[a3 0.0 0]", "['a]", "['a'a]", "[[]]", "[[]1]", "[[0]]"};

    /** "ORDER of LEAVES and ARRAYS: .." and "LIKE are those of which neither is ahead" */
    private static void order() {
        for (int i = 0; i < CHAIN.length; i++) {
            Due.last("0", "A0=" + CHAIN[i], "A2=i5[A0]A0");
            for (int k = i + 1; k < CHAIN.length; k++) {
                Sheet sheet = new Sheet().with("A0=" + CHAIN[i], "A1=" + CHAIN[k], "A2=s8[A0 A1]", "A3=s8[A1 A0]",
                    "A4=[i5[A0]A1 i5[A1]A0]");
                Due.is(CHAIN[i] + " ahead of " + CHAIN[k], sheet.ask("A2"), "[0 1]");
                Due.is(CHAIN[i] + " ahead of " + CHAIN[k], sheet.ask("A3"), "[1 0]");
                Due.is(CHAIN[i] + " not like " + CHAIN[k], sheet.ask("A4"), "[-1 -1]");
            }
        }
    }

    public static void main(String[] args) {
        sorts();
        in();
        wholesOf64Bits();
        oneNan();
        signs();
        width();
        noFailuresInArrays();
        in200();
        in200ByPairs();
        depth4();
        askedWhenAllAreThere();
        kindCellPlace();
        order();
        Due.end("ValueBoundsTest");
    }
}
