/** A NestSheet as tests like to use it: texts in, texts out. */
final class Sheet {
    final NestSheet x = new NestSheet();

    /** Types a text in parts of at most 8 bytes: what the last type() answered. */
    int type(String text) {
        int answer = 0;
        for (int from = 0; from < text.length(); from += 8) {
            String part = text.substring(from, Math.min(from + 8, text.length()));
            long w = 0;
            for (int i = 0; i < part.length(); i++) {
                w = w << 8 | part.charAt(i);
            }
            answer = x.type(w, part.length());
        }
        return answer;
    }

    int enter(int cell, String text) {
        type(text);
        return x.enter(cell);
    }

    /** A name such as B3 as the number of the cell. */
    static int cell(String name) {
        return (name.charAt(0) - 'A') * 8 + name.charAt(1) - '0';
    }

    /** Several lines such as "A0=a0 1 B0", each of which must be accepted. */
    Sheet with(String... lines) {
        for (String line : lines) {
            int answer = enter(cell(line), line.substring(3));
            if (answer != 0) {
                throw new IllegalStateException(line + " is refused with " + answer);
            }
        }
        return this;
    }

    /** What is at hand as print() writes it; of a failure its cell and place, too. */
    String shown() {
        int length = x.print();
        StringBuilder text = new StringBuilder();
        for (int i = 0; i < length; i++) {
            text.append((char) x.out(i));
        }
        if (x.told(0) == 4) {
            int cell = x.told(5);
            text.append('@').append((char) ('A' + cell / 8)).append(cell % 8).append(':').append(x.told(6));
        }
        return text.toString();
    }

    String ask(int cell) {
        int answer = x.ask(cell);
        return answer < 0 ? String.valueOf(answer) : shown();
    }

    String ask(String name) {
        return ask(cell(name));
    }

    /** The formula of a cell by formula(). */
    String text(int cell) {
        int length = x.formula(cell, -1);
        StringBuilder text = new StringBuilder();
        for (int i = 0; i < length; i++) {
            text.append((char) x.formula(cell, i));
        }
        return text.toString();
    }

    /** The value of a formula in A0 of a new sheet. */
    static String value(String formula) {
        return new Sheet().with("A0=" + formula).ask(0);
    }

    /** How many steps a formula in A0 of a new sheet makes. */
    static int steps(String formula) {
        Sheet sheet = new Sheet().with("A0=" + formula);
        sheet.ask(0);
        return sheet.x.steps(0);
    }

    /** A double as print() writes it. */
    static String real(double d) {
        return String.format("#%016x", Double.doubleToLongBits(d));
    }

    /** All that the object tells of itself. It goes through undo() and redo() and takes the tape: the last look. */
    String all() {
        StringBuilder text = new StringBuilder();
        for (int what = 0; what < 8; what++) {
            text.append(x.told(what)).append(' ');
        }
        text.append(x.number()).append(" out ");
        for (int i = 0; i < 24; i++) {
            text.append(x.out(i)).append(' ');
        }
        text.append("top ").append(x.top()).append(' ').append(x.told(1)).append(' ').append(x.number());
        text.append(" steps ").append(x.steps(0)).append(' ').append(x.steps(1)).append(" stale ").append(x.stale());
        for (int cell : new int[] {0, 1, 2, 31}) {
            text.append(" cell ").append(text(cell)).append(' ').append(x.worked(cell)).append(' ');
            text.append(x.needs(0, cell));
        }
        text.append(" redo ");
        for (int cell = x.redo(); cell >= 0; cell = x.redo()) {
            text.append(cell).append(' ').append(text(cell)).append(' ');
        }
        text.append(" undo ");
        for (int cell = x.undo(); cell >= 0; cell = x.undo()) {
            text.append(cell).append(' ').append(text(cell)).append(' ');
        }
        text.append(" tape ").append(x.type('7', 1)).append(' ').append(x.enter(30)).append(' ').append(text(30));
        return text.toString();
    }
}
