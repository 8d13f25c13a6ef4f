import java.math.BigDecimal;
import java.util.ArrayList;
import java.util.HashSet;
import java.util.List;
import java.util.Set;
import java.util.TreeMap;

/**
 * The document once more, in the plainest way and with the library's own numbers: recursion, exceptions, lists.
 * Values are Long, Double, Character, List and Failed.
 */
final class Oracle {
    static final int BAD = -1, STATE = -2, FULL = -3, NONE = -5;

    record Failed(int kind, int cell, int place) {
    }

    /** One form of a formula. */
    static final class Form {
        String what;
        int place;
        Object leaf;
        String used;
        int usedPlace;
        int cell = -1;
        final List<Form> parts = new ArrayList<>();
    }

    /** A text that is no formula from this place on. */
    static final class Fault extends RuntimeException {
        final int place;

        Fault(int place) {
            this.place = place;
        }
    }

    /** The stop of an ask() that has made too many steps. */
    static final class Stop extends RuntimeException {
    }

    record Change(int cell, String before, String after) {
    }

    private String tape = "";
    private final TreeMap<Integer, String> texts = new TreeMap<>();
    private final TreeMap<Integer, Form> forms = new TreeMap<>();
    private final TreeMap<Integer, Object> remembered = new TreeMap<>();
    private final int[] times = new int[32];
    private final List<Change> done = new ArrayList<>();
    private final List<Change> undone = new ArrayList<>();
    private int latest;
    private int all;
    private Object value = new ArrayList<Object>();
    private Object hand = value;
    private String paper = "";

    // ---- the calls

    int type(long w, int n) {
        if (n < 1 || n > 8) {
            return BAD;
        }
        StringBuilder more = new StringBuilder();
        for (int i = 0; i < n; i++) {
            int b = (int) (w >> 8 * (n - 1 - i) & 0xff);
            if (b < 32 || b > 126) {
                return BAD;
            }
            more.append((char) b);
        }
        if (tape.length() + n > 80) {
            return FULL;
        }
        tape += more;
        return tape.length();
    }

    int enter(int cell) {
        if (cell < 0 || cell > 31) {
            return BAD;
        }
        String text = tape;
        tape = "";
        try {
            new Parser(text).whole();
        } catch (Fault fault) {
            return fault.place + 1;
        }
        change(cell, text);
        return 0;
    }

    int clear(int cell) {
        if (cell < 0 || cell > 31) {
            return BAD;
        }
        String text = texts.get(cell);
        if (text == null) {
            return 0;
        }
        change(cell, null);
        return text.length();
    }

    int formula(int cell, int i) {
        if (cell < 0 || cell > 31) {
            return BAD;
        }
        String text = texts.getOrDefault(cell, "");
        return i == -1 ? text.length() : i >= 0 && i < text.length() ? text.charAt(i) : NONE;
    }

    int undo() {
        if (done.isEmpty()) {
            return STATE;
        }
        Change change = done.remove(done.size() - 1);
        undone.add(change);
        put(change.cell, change.before);
        return change.cell;
    }

    int redo() {
        if (undone.isEmpty()) {
            return STATE;
        }
        Change change = undone.remove(undone.size() - 1);
        done.add(change);
        put(change.cell, change.after);
        return change.cell;
    }

    int needs(int cell, int other) {
        if (cell < 0 || cell > 31 || other < 0 || other > 31) {
            return BAD;
        }
        return named(cell).contains(other) ? 1 : needed(cell).contains(other) ? 2 : 0;
    }

    int stale() {
        int count = 0;
        for (int cell : texts.keySet()) {
            if (!needed(cell).contains(cell) && !remembered.containsKey(cell)) {
                count++;
            }
        }
        return count;
    }

    int worked(int cell) {
        return cell < 0 || cell > 31 ? BAD : times[cell];
    }

    int ask(int cell) {
        if (cell < 0 || cell > 31) {
            return BAD;
        }
        boolean toWork = texts.containsKey(cell) && !needed(cell).contains(cell) && !remembered.containsKey(cell);
        if (all >= 40000 && toWork) {
            return FULL;
        }
        latest = 0;
        try {
            value = cellValue(cell);
        } catch (Stop stop) {
            value = new Failed(7, cell, 0);
        }
        hand = value;
        return sort(hand);
    }

    int steps(int which) {
        return which == 0 ? latest : which == 1 ? all : BAD;
    }

    int down(int i) {
        if (!(hand instanceof List<?> list) || i < 0 || i >= list.size()) {
            return BAD;
        }
        hand = list.get(i);
        return sort(hand);
    }

    int top() {
        hand = value;
        return sort(hand);
    }

    int told(int what) {
        switch (what) {
            case 0:
                return sort(hand);
            case 1:
                return hand instanceof List<?> list ? list.size() : NONE;
            case 2:
                return hand instanceof Failed ? NONE : in(hand);
            case 3:
                return hand instanceof Failed ? NONE : depth(hand);
            case 4:
                return hand instanceof Failed f ? f.kind : NONE;
            case 5:
                return hand instanceof Failed f ? f.cell : NONE;
            case 6:
                return hand instanceof Failed f ? f.place : NONE;
            case 7:
                return hand instanceof Character c ? c : NONE;
            default:
                return BAD;
        }
    }

    long number() {
        return hand instanceof Long l ? l : hand instanceof Double d ? Double.doubleToLongBits(d) : 0;
    }

    int print() {
        paper = text(hand);
        return paper.length();
    }

    int out(int i) {
        return i >= 0 && i < paper.length() ? paper.charAt(i) : NONE;
    }

    // ---- changes and what they touch

    private void change(int cell, String after) {
        done.add(new Change(cell, texts.get(cell), after));
        if (done.size() > 50) {
            done.remove(0);
        }
        undone.clear();
        put(cell, after);
    }

    private void put(int cell, String text) {
        for (int each = 0; each < 32; each++) {
            if (each == cell || needed(each).contains(cell)) {
                remembered.remove(each);
            }
        }
        if (text == null) {
            texts.remove(cell);
            forms.remove(cell);
        } else {
            texts.put(cell, text);
            forms.put(cell, new Parser(text).whole());
        }
    }

    private Set<Integer> named(int cell) {
        Set<Integer> found = new HashSet<>();
        if (forms.containsKey(cell)) {
            gather(forms.get(cell), found);
        }
        return found;
    }

    private static void gather(Form form, Set<Integer> found) {
        if (form.cell >= 0) {
            found.add(form.cell);
        }
        for (Form part : form.parts) {
            gather(part, found);
        }
    }

    private Set<Integer> needed(int cell) {
        Set<Integer> found = new HashSet<>(named(cell));
        List<Integer> todo = new ArrayList<>(found);
        while (!todo.isEmpty()) {
            for (int next : named(todo.remove(0))) {
                if (found.add(next)) {
                    todo.add(next);
                }
            }
        }
        return found;
    }

    // ---- reading

    /** Reads one text. */
    static final class Parser {
        private final String text;
        private int at = 0;

        Parser(String text) {
            this.text = text;
        }

        Form whole() {
            Form form = form(0);
            blanks();
            need(at == text.length());
            return form;
        }

        private void need(boolean good) {
            if (!good) {
                throw new Fault(at);
            }
        }

        private char next() {
            return at < text.length() ? text.charAt(at) : '\0';
        }

        private void blanks() {
            while (next() == ' ') {
                at++;
            }
        }

        private Form form(int around) {
            blanks();
            Form form = new Form();
            form.place = at;
            char c = next();
            if (Character.isDigit(c)) {
                number(form);
            } else if (c == '\'') {
                at++;
                need(at < text.length());
                form.what = "leaf";
                form.leaf = text.charAt(at++);
            } else if ("ABCD".indexOf(c) >= 0) {
                at++;
                need("01234567".indexOf(next()) >= 0);
                form.what = "cell";
                form.cell = "ABCD".indexOf(c) * 8 + (text.charAt(at++) - '0');
            } else if (c == '[' && around < 10) {
                at++;
                form.what = "[";
                blanks();
                while (next() != ']') {
                    form.parts.add(form(around + 1));
                    blanks();
                }
                at++;
            } else {
                need(around < 10 && "acsinrqf".indexOf(c) >= 0 && c != '\0');
                form.what = op("acsinrqf");
                if (c == 'f') {
                    blanks();
                    form.usedPlace = at;
                    form.used = op("ac");
                }
                for (int i = 0; i < wants(form.what); i++) {
                    form.parts.add(form(around + 1));
                }
            }
            return form;
        }

        private String op(String letters) {
            char letter = next();
            need(letter != '\0' && letters.indexOf(letter) >= 0);
            at++;
            char digit = next();
            need(Character.isDigit(digit) && wants("" + letter + digit) > 0);
            at++;
            return "" + letter + digit;
        }

        private static int wants(String op) {
            if (" i4 q0 ".contains(" " + op + " ")) {
                return 3;
            }
            if (" a0 a1 a2 a3 a4 a5 a6 c0 c1 c2 s5 i0 i1 i2 i3 i5 r1 q1 f0 f1 f2 ".contains(" " + op + " ")) {
                return 2;
            }
            return " n0 n1 n2 n3 n4 n5 n6 n7 s0 s1 s2 s3 s4 s6 s7 s8 s9 r0 q2 f3 ".contains(" " + op + " ") ? 1 : 0;
        }

        private void number(Form form) {
            StringBuilder ahead = new StringBuilder();
            StringBuilder behind = new StringBuilder();
            while (Character.isDigit(next())) {
                need(ahead.length() < 18);
                ahead.append(next());
                at++;
            }
            form.what = "leaf";
            if (next() != '.' || ahead.length() > 14) {
                form.leaf = Long.parseLong(ahead.toString());
                return;
            }
            at++;
            need(Character.isDigit(next()));
            while (Character.isDigit(next())) {
                need(ahead.length() + behind.length() < 15);
                behind.append(next());
                at++;
            }
            double digits = (double) Long.parseLong(ahead.toString() + behind);
            form.leaf = digits / (double) Long.parseLong("1" + "0".repeat(behind.length()));
        }
    }

    // ---- working out

    private void step(int n) {
        latest += n;
        all += n;
        if (latest > 2000) {
            throw new Stop();
        }
    }

    private Object cellValue(int cell) {
        if (!texts.containsKey(cell)) {
            return new ArrayList<Object>();
        }
        if (needed(cell).contains(cell)) {
            return new Failed(6, cell, 0);
        }
        if (!remembered.containsKey(cell)) {
            Object found = work(cell, forms.get(cell));
            remembered.put(cell, found);
            times[cell]++;
        }
        return remembered.get(cell);
    }

    private Object work(int cell, Form form) {
        step(1);
        Object result;
        switch (form.what) {
            case "leaf":
                result = form.leaf;
                break;
            case "cell":
                return cellValue(form.cell);
            case "q0": {
                Object choice = work(cell, form.parts.get(0));
                if (choice instanceof Failed) {
                    return choice;
                }
                if (!(choice instanceof Long l)) {
                    return new Failed(1, cell, form.place);
                }
                return work(cell, form.parts.get(l != 0 ? 1 : 2));
            }
            case "q1": {
                Object first = work(cell, form.parts.get(0));
                return first instanceof Failed ? work(cell, form.parts.get(1)) : first;
            }
            case "q2": {
                Object first = work(cell, form.parts.get(0));
                result = first instanceof Failed f ? (long) f.kind : 0L;
                break;
            }
            default: {
                List<Object> args = new ArrayList<>();
                int in = 0;
                for (Form part : form.parts) {
                    Object arg = work(cell, part);
                    if (arg instanceof Failed) {
                        return arg;
                    }
                    args.add(arg);
                    in += in(arg);
                }
                step(in);
                try {
                    result = operate(cell, form, args);
                } catch (Kind kind) {
                    return new Failed(kind.kind, cell, kind.place >= 0 ? kind.place : form.place);
                }
            }
        }
        step(in(result));
        return result;
    }

    /** What an op finds. */
    static final class Kind extends RuntimeException {
        final int kind;
        int place = -1;

        Kind(int kind) {
            this.kind = kind;
        }
    }

    private static void must(boolean good, int kind) {
        if (!good) {
            throw new Kind(kind);
        }
    }

    private static List<Object> made(List<Object> items) {
        must(items.size() <= 32 && in(items) <= 200 && depth(items) <= 4, 5);
        return items;
    }

    @SuppressWarnings("unchecked")
    private static List<Object> array(Object value) {
        must(value instanceof List, 1);
        return (List<Object>) value;
    }

    private static long whole(Object value) {
        must(value instanceof Long, 1);
        return (Long) value;
    }

    private Object operate(int cell, Form form, List<Object> args) {
        Object x = args.isEmpty() ? null : args.get(0);
        Object y = args.size() < 2 ? null : args.get(1);
        char digit = form.what.length() > 1 ? form.what.charAt(1) : ' ';
        switch (form.what.charAt(0)) {
            case '[':
                return made(args);
            case 'a':
            case 'c':
                return two(form.what, x, y);
            case 'n':
                return one(digit, x);
            case 's':
                return shape(digit, x, y);
            case 'i':
                return index(digit, x, y, args);
            case 'r': {
                long n = whole(x);
                must(n >= 0 && n <= 32, 5);
                List<Object> items = new ArrayList<>();
                for (long i = 0; i < n; i++) {
                    items.add(digit == '0' ? (Object) i : y);
                }
                return made(items);
            }
            default:
                return uses(form, digit, x, y);
        }
    }

    private Object use(Form form, Object x, Object y) {
        step(1);
        step(in(x) + in(y));
        Object result;
        try {
            result = two(form.used, x, y);
        } catch (Kind kind) {
            kind.place = form.usedPlace;
            throw kind;
        }
        step(in(result));
        return result;
    }

    private Object uses(Form form, char digit, Object x, Object y) {
        List<Object> all = new ArrayList<>();
        switch (digit) {
            case '0': {
                Object so = x;
                for (Object each : array(y)) {
                    so = use(form, so, each);
                }
                return so;
            }
            case '1': {
                Object so = x;
                for (Object each : array(y)) {
                    so = use(form, so, each);
                    all.add(so);
                }
                return made(all);
            }
            case '2': {
                array(x);
                array(y);
                for (Object left : array(x)) {
                    List<Object> row = new ArrayList<>();
                    for (Object right : array(y)) {
                        row.add(use(form, left, right));
                    }
                    all.add(made(row));
                }
                return made(all);
            }
            default: {
                List<Object> list = array(x);
                for (int i = 0; i + 1 < list.size(); i++) {
                    all.add(use(form, list.get(i), list.get(i + 1)));
                }
                return made(all);
            }
        }
    }

    private static Object two(String op, Object x, Object y) {
        if (x instanceof List || y instanceof List) {
            if (x instanceof List<?> a && y instanceof List<?> b) {
                must(a.size() == b.size(), 2);
            }
            int n = x instanceof List<?> a ? a.size() : ((List<?>) y).size();
            List<Object> items = new ArrayList<>();
            for (int i = 0; i < n; i++) {
                items.add(two(op, x instanceof List<?> a ? a.get(i) : x, y instanceof List<?> b ? b.get(i) : y));
            }
            return made(items);
        }
        if (op.charAt(0) == 'c') {
            must((x instanceof Character) == (y instanceof Character), 1);
            boolean sameSort = x.getClass() == y.getClass();
            int order = sameSort ? order(x, y) : mixed(x, y);
            return (op.equals("c0") ? order == 0 : op.equals("c1") ? order < 0 : order <= 0) ? 1L : 0L;
        }
        must(!(x instanceof Character) && !(y instanceof Character), 1);
        if (x instanceof Long a && y instanceof Long b) {
            switch (op) {
                case "a0":
                    return a + b;
                case "a1":
                    return a - b;
                case "a2":
                    return a * b;
                case "a3":
                    must(b != 0, 3);
                    return a / b;
                case "a4":
                    must(b != 0, 3);
                    return a % b;
                case "a5":
                    return Math.min(a, b);
                default:
                    return Math.max(a, b);
            }
        }
        double a = ((Number) x).doubleValue();
        double b = ((Number) y).doubleValue();
        switch (op) {
            case "a0":
                return a + b;
            case "a1":
                return a - b;
            case "a2":
                return a * b;
            case "a3":
                return a / b;
            case "a4":
                return a % b;
            case "a5":
                return Math.min(a, b);
            default:
                return Math.max(a, b);
        }
    }

    /** A whole and a real, in either order, by their numbers alone. */
    private static int mixed(Object x, Object y) {
        if (x instanceof Double) {
            return -mixed(y, x);
        }
        double d = (Double) y;
        if (Double.isNaN(d) || Double.isInfinite(d)) {
            return d == Double.NEGATIVE_INFINITY ? 1 : -1;
        }
        return new BigDecimal((Long) x).compareTo(new BigDecimal(d));
    }

    private static int order(Object x, Object y) {
        int rankX = x instanceof List ? 2 : x instanceof Character ? 1 : 0;
        int rankY = y instanceof List ? 2 : y instanceof Character ? 1 : 0;
        if (rankX != rankY) {
            return rankX - rankY;
        }
        if (rankX == 1) {
            return (Character) x - (Character) y;
        }
        if (rankX == 2) {
            List<?> a = (List<?>) x;
            List<?> b = (List<?>) y;
            for (int i = 0; i < a.size() && i < b.size(); i++) {
                int order = order(a.get(i), b.get(i));
                if (order != 0) {
                    return order;
                }
            }
            return a.size() - b.size();
        }
        if (x instanceof Long a && y instanceof Long b) {
            return a.compareTo(b);
        }
        if (x instanceof Double a && y instanceof Double b) {
            return a.compareTo(b);
        }
        int order = mixed(x, y);
        if (order != 0) {
            return order;
        }
        if (x instanceof Long) {
            return 1.0 / (Double) y == Double.NEGATIVE_INFINITY ? 1 : -1;
        }
        return -order(y, x);
    }

    private static Object one(char digit, Object x) {
        if (x instanceof List<?> list) {
            List<Object> items = new ArrayList<>();
            for (Object each : list) {
                items.add(one(digit, each));
            }
            return items;
        }
        boolean isWhole = x instanceof Long;
        boolean isReal = x instanceof Double;
        switch (digit) {
            case '0':
                must(isWhole || isReal, 1);
                return isWhole ? (Object) (-(Long) x) : (Object) (-(Double) x);
            case '1':
                must(isWhole || isReal, 1);
                return isWhole ? (Object) Math.abs((Long) x) : (Object) Math.abs((Double) x);
            case '2':
                return x.equals(0L) ? 1L : 0L;
            case '3':
                must(isReal, 1);
                return Math.floor((Double) x);
            case '4':
                must(isReal, 1);
                return (long) (double) (Double) x;
            case '5':
                must(isWhole, 1);
                return (double) (Long) x;
            case '6':
                must(x instanceof Character, 1);
                return (long) (Character) x;
            default:
                must(isWhole, 1);
                must((Long) x >= 32 && (Long) x <= 126, 4);
                return (char) (long) (Long) x;
        }
    }

    private static void leaves(Object x, List<Object> into) {
        if (x instanceof List<?> list) {
            for (Object each : list) {
                leaves(each, into);
            }
        } else {
            into.add(x);
        }
    }

    private static Object shape(char digit, Object x, Object y) {
        List<Object> items = new ArrayList<>();
        switch (digit) {
            case '0':
                return (long) array(x).size();
            case '1':
                leaves(x, items);
                return (long) items.size();
            case '2':
                return (long) depth(x);
            case '3':
                leaves(x, items);
                return made(items);
            case '4':
                for (Object each : array(x)) {
                    items.add(0, each);
                }
                return made(items);
            case '5':
                for (Object side : new Object[] {x, y}) {
                    if (side instanceof List<?> list) {
                        items.addAll(list);
                    } else {
                        items.add(side);
                    }
                }
                return made(items);
            case '6':
                items.add(x);
                return made(items);
            case '7':
                items.addAll(array(x));
                items.sort(Oracle::order);
                return made(items);
            case '8': {
                List<Object> list = array(x);
                List<Integer> numbers = new ArrayList<>();
                for (int i = 0; i < list.size(); i++) {
                    numbers.add(i);
                }
                numbers.sort((i, k) -> order(list.get(i), list.get(k)));
                for (int i : numbers) {
                    items.add((long) i);
                }
                return made(items);
            }
            default:
                for (Object each : array(x)) {
                    if (items.stream().noneMatch(other -> order(other, each) == 0)) {
                        items.add(each);
                    }
                }
                return made(items);
        }
    }

    private static Object index(char digit, Object x, Object y, List<Object> args) {
        List<Object> list = array(x);
        int n = list.size();
        if (digit == '5') {
            for (int i = 0; i < n; i++) {
                if (order(list.get(i), y) == 0) {
                    return (long) i;
                }
            }
            return -1L;
        }
        long k = whole(y);
        boolean within = k <= n && k >= -n;
        List<Object> items = new ArrayList<>(list);
        switch (digit) {
            case '1':
                must(within, 5);
                return k >= 0 ? new ArrayList<>(list.subList(0, (int) k))
                    : new ArrayList<>(list.subList(n + (int) k, n));
            case '2':
                if (!within) {
                    return new ArrayList<>();
                }
                return k >= 0 ? new ArrayList<>(list.subList((int) k, n))
                    : new ArrayList<>(list.subList(0, n + (int) k));
            case '3':
                for (long i = 0; n > 0 && i < Math.floorMod(k, (long) n); i++) {
                    items.add(items.remove(0));
                }
                return items;
            default:
                must(k < n && k >= -n, 4);
                int place = (int) (k < 0 ? k + n : k);
                if (digit == '0') {
                    return list.get(place);
                }
                items.set(place, args.get(2));
                return made(items);
        }
    }

    // ---- values

    private static int sort(Object x) {
        return x instanceof Long ? 0 : x instanceof Double ? 1 : x instanceof Character ? 2 : x instanceof List ? 3 : 4;
    }

    private static int in(Object x) {
        int count = 1;
        if (x instanceof List<?> list) {
            for (Object each : list) {
                count += in(each);
            }
        }
        return count;
    }

    private static int depth(Object x) {
        if (!(x instanceof List<?> list)) {
            return 0;
        }
        int most = 0;
        for (Object each : list) {
            most = Math.max(most, depth(each));
        }
        return most + 1;
    }

    private static String text(Object x) {
        if (x instanceof Double d) {
            return Sheet.real(d);
        }
        if (x instanceof Character c) {
            return "'" + c;
        }
        if (x instanceof Failed f) {
            return "!" + f.kind;
        }
        if (!(x instanceof List<?> list)) {
            return x.toString();
        }
        StringBuilder text = new StringBuilder("[");
        for (Object each : list) {
            text.append(text.length() > 1 ? " " : "").append(text(each));
        }
        return text.append("]").toString();
    }
}
