import java.util.Random;

/**
 * Runs of calls by chance (from a fixed seed), each answer against that of the Oracle. They go on beyond the 512 calls
 * that an object is promised to be used for: nothing in the program ends there, and more comes to pass.
 */
public final class OracleTest {
    private static final String[] OPS = {
        "a0", "a1", "a2", "a3", "a4", "a5", "a6", "c0", "c1", "c2", "n0", "n1", "n2", "n3", "n4", "n5", "n6", "n7",
        "s0", "s1", "s2", "s3", "s4", "s5", "s6", "s7", "s8", "s9", "i0", "i1", "i2", "i3", "i4", "i5", "r0", "r1",
        "q0", "q1", "q2", "f0", "f1", "f2", "f3"};
    private static final String[] TAKE_ARRAYS = {
        "s0", "s3", "s4", "s7", "s8", "s9", "i0", "i1", "i2", "i3", "i4", "i5", "f0", "f1", "f2", "f3", "s5"};
    private static final String[] USED = {"a0", "a1", "a2", "a3", "a4", "a5", "a6", "c0", "c1", "c2"};
    private static final String[] REALS = {
        "0.0", "1.5", "0.1", "2.0", "00.5", "99999999999999.9", "3.0", "a3 0.0 0.0", "n0 0.0", "a3 1.0 0", "n5 7"};

    private final Random any;
    private final NestSheet got = new NestSheet();
    private final Oracle want = new Oracle();
    private final StringBuilder log = new StringBuilder();
    private int wrong = 0;
    private int cells = 32;
    private final boolean heavy;

    private OracleTest(long seed) {
        any = new Random(seed);
        cells = any.nextInt(3) == 0 ? 32 : 3 + any.nextInt(8);
        heavy = any.nextInt(4) == 0;
    }

    private boolean chance(int percent) {
        return any.nextInt(100) < percent;
    }

    private String one(String[] of) {
        return of[any.nextInt(of.length)];
    }

    private String cell() {
        int cell = any.nextInt(cells);
        return "" + (char) ('A' + cell / 8) + cell % 8;
    }

    private String leaf() {
        switch (any.nextInt(12)) {
            case 0:
                return one(REALS);
            case 1:
                return "'" + (char) (32 + any.nextInt(95));
            case 2:
                return "n0 " + any.nextInt(40);
            case 3:
                return String.valueOf(Math.abs(any.nextLong() % 1000000000000000000L));
            case 4:
            case 5:
            case 6:
                return cell();
            default:
                return String.valueOf(any.nextInt(chance(80) ? 6 : 140));
        }
    }

    private String array(int depth) {
        switch (any.nextInt(5)) {
            case 0:
                return "r0 " + any.nextInt(chance(90) ? 8 : 36);
            case 1:
                return "r1 " + any.nextInt(6) + " " + form(depth - 1);
            case 2:
                return cell();
            default:
                StringBuilder text = new StringBuilder("[");
                int n = any.nextInt(chance(90) ? 5 : 40);
                for (int i = 0; i < n; i++) {
                    text.append(i == 0 || chance(10) ? "" : " ").append(form(depth - 1));
                }
                return text.append(chance(10) ? " ]" : "]").toString();
        }
    }

    private String form(int depth) {
        if (depth <= 0) {
            return leaf();
        }
        int roll = any.nextInt(10);
        if (roll < 2) {
            return leaf();
        }
        if (roll < 5) {
            return array(depth);
        }
        String op = one(roll < 8 ? OPS : TAKE_ARRAYS);
        boolean takesArray = op.charAt(0) == 's' || op.charAt(0) == 'i' || op.equals("f2") || op.equals("f3");
        String first = takesArray && chance(85) ? array(depth) : form(depth - 1);
        String text = op + (chance(50) ? " " : "") + (op.charAt(0) == 'f' ? one(USED) + " " : "") + first;
        int more = op.equals("q0") || op.equals("i4") ? 2
            : op.charAt(0) == 'n' || op.equals("r0") || op.equals("q2") || op.equals("f3")
            || (op.charAt(0) == 's' && !op.equals("s5")) ? 0 : 1;
        for (int i = 0; i < more; i++) {
            boolean index = op.charAt(0) == 'i' && i == 0;
            text += " " + (index && chance(80) ? (chance(30) ? "n0 " : "") + any.nextInt(6)
                : op.charAt(0) == 'f' && chance(85) ? array(depth) : form(depth - 1));
        }
        return text;
    }

    /** A formula that makes many steps. */
    private String heavyFormula() {
        String used = one(USED);
        int n = 2 + any.nextInt(14);
        int m = 2 + any.nextInt(14);
        switch (any.nextInt(9)) {
            case 0:
                return "f2" + used + " r0 " + n + " r0 " + m;
            case 1:
                return "f1" + used + " r0 " + n + " r1 " + m + " r0 " + n;
            case 2:
                return "f0" + used + " f2 a2 r0 " + n + " r0 " + m + " r1 " + any.nextInt(9) + cell();
            case 3:
                return "f3" + used + " r1 " + m + " r0 " + n;
            case 4:
                return "[" + cell() + cell() + "s3 " + cell() + cell() + cell() + "]";
            case 5:
                return used + " s4 r1 5 " + cell() + " r1 5 n0 " + cell();
            case 6:
                return "q1 s8 s7 f2 " + used + cell() + cell() + cell();
            case 7:
                return "f1 a0 " + cell() + " f1 " + used + " 1 r0 " + 2 * n;
            default:
                return "q0 c1 " + any.nextInt(3) + " 1 " + cell() + " f2 a0 r0 13 r0 13";
        }
    }

    private String formula() {
        if (heavy && chance(75)) {
            return heavyFormula();
        }
        String text = form(1 + any.nextInt(4));
        for (int tries = 0; text.length() > 80 && tries < 20; tries++) {
            text = form(1 + any.nextInt(3));
        }
        if (chance(3)) {
            text = "s6".repeat(any.nextInt(12)) + cell();
        }
        if (chance(5)) {
            text = "[".repeat(1 + any.nextInt(11)) + text;
        }
        if (text.length() > 80) {
            text = text.substring(0, 80);
        }
        if (chance(12) && text.length() > 0) {
            int at = any.nextInt(text.length());
            char sign = chance(50) ? "0123456789.'[] abcdfqsirnABD".charAt(any.nextInt(28))
                : (char) (32 + any.nextInt(95));
            text = text.substring(0, at) + (chance(70) ? String.valueOf(sign) : "")
                + text.substring(at + (chance(60) ? 1 : 0));
        }
        return text.length() > 80 ? text.substring(0, 80) : text;
    }

    private void look(String call, long answer, long due) {
        if (log.length() < 60000) {
            log.append(call).append(" -> ").append(answer).append('\n');
        }
        if (answer != due) {
            wrong++;
            if (wrong == 1) {
                System.out.println(log);
                System.out.println("the last answer was due as " + due);
            }
        }
    }

    private void type(String text) {
        for (int from = 0; from < text.length(); from += 8) {
            String part = text.substring(from, Math.min(from + 8, text.length()));
            long w = chance(20) ? any.nextLong() : 0;
            for (int i = 0; i < part.length(); i++) {
                w = w << 8 | part.charAt(i);
            }
            look("type " + part, got.type(w, part.length()), want.type(w, part.length()));
        }
    }

    private void value() {
        for (int what = -1; what < 9; what++) {
            look("told " + what, got.told(what), want.told(what));
        }
        look("number", got.number(), want.number());
        look("print", got.print(), want.print());
        for (int i = -1; want.out(i) >= 0 || i == -1; i++) {
            look("out " + i, got.out(i), want.out(i));
        }
        look("out behind", got.out(want.print()), Oracle.NONE);
    }

    private void state() {
        look("stale", got.stale(), want.stale());
        for (int cell = -1; cell < 33; cell++) {
            look("worked " + cell, got.worked(cell), want.worked(cell));
            int other = any.nextInt(34) - 1;
            look("needs " + cell + " " + other, got.needs(cell, other), want.needs(cell, other));
        }
    }

    private void call() {
        int cell = chance(2) ? any.nextInt(80) - 40 : any.nextInt(cells);
        int roll = any.nextInt(100);
        if (roll < 40) {
            type(formula());
            look("enter " + cell, got.enter(cell), want.enter(cell));
        } else if (roll < 75) {
            look("ask " + cell, got.ask(cell), want.ask(cell));
            look("steps", got.steps(0), want.steps(0));
            look("steps", got.steps(1), want.steps(1));
            value();
        } else if (roll < 80) {
            int i = any.nextInt(6) - 1;
            look("down " + i, got.down(i), want.down(i));
            value();
        } else if (roll < 82) {
            look("top", got.top(), want.top());
            value();
        } else if (roll < 84) {
            look("clear " + cell, got.clear(cell), want.clear(cell));
        } else if (roll < 91) {
            for (int i = any.nextInt(chance(5) ? 60 : 4); i >= 0; i--) {
                look("undo", got.undo(), want.undo());
            }
        } else if (roll < 95) {
            for (int i = any.nextInt(chance(5) ? 60 : 4); i >= 0; i--) {
                look("redo", got.redo(), want.redo());
            }
        } else if (roll < 97) {
            for (int i = -2; i < 82; i++) {
                look("formula " + cell + " " + i, got.formula(cell, i), want.formula(cell, i));
            }
        } else {
            int n = any.nextInt(12) - 1;
            long w = any.nextLong();
            look("type " + w + " " + n, got.type(w, n), want.type(w, n));
        }
        if (heavy && chance(3)) {
            burst(cell);
        }
        if (chance(10)) {
            state();
        }
    }

    /** Many steps at once, to come to where ask() is refused. */
    private void burst(int cell) {
        for (int i = any.nextInt(8); i >= 0; i--) {
            type("f2 a0 r0 " + (16 + any.nextInt(5)) + " r0 18");
            look("enter " + cell, got.enter(cell), want.enter(cell));
            look("ask " + cell, got.ask(cell), want.ask(cell));
            look("steps", got.steps(0), want.steps(0));
            look("steps", got.steps(1), want.steps(1));
        }
        value();
    }

    public static void main(String[] args) {
        int runs = args.length > 0 ? Integer.parseInt(args[0]) : 1500;
        long first = args.length > 1 ? Long.parseLong(args[1]) : 1;
        for (long seed = first; seed < first + runs; seed++) {
            OracleTest run = new OracleTest(seed);
            for (int i = 0; i < 300 && run.wrong == 0; i++) {
                run.call();
            }
            run.state();
            Due.is("wrong answers of seed " + seed, run.wrong, 0);
            if (run.wrong > 0) {
                break;
            }
        }
        Due.end("OracleTest");
    }
}
