import java.lang.management.ManagementFactory;

/** What the dearest runs of 512 calls make must have room: far less than 600,000 objects. */
public final class RoomTest {
    private static final long BYTES = 9600000L;

    private static final com.sun.management.ThreadMXBean ROOM =
        (com.sun.management.ThreadMXBean) ManagementFactory.getThreadMXBean();

    private static long used() {
        return ROOM.getThreadAllocatedBytes(Thread.currentThread().getId());
    }

    private static void type(NestSheet x, byte[] text) {
        for (int from = 0; from < text.length; from += 8) {
            long w = 0;
            int n = Math.min(8, text.length - from);
            for (int i = 0; i < n; i++) {
                w = w << 8 | text[from + i];
            }
            x.type(w, n);
        }
    }

    /** Enters one formula behind the other and asks for it, until 512 calls are made. */
    private static void run(String... formulas) {
        byte[][] texts = new byte[formulas.length][];
        for (int i = 0; i < formulas.length; i++) {
            texts[i] = formulas[i].getBytes(java.nio.charset.StandardCharsets.US_ASCII);
        }
        long before = used();
        NestSheet x = new NestSheet();
        int calls = 0;
        for (int i = 0; calls < 490; i++) {
            int cell = Math.min(i, texts.length - 1);
            type(x, texts[cell]);
            x.enter(cell);
            x.ask(cell);
            x.print();
            calls += (texts[cell].length + 7) / 8 + 3;
        }
        long made = used() - before;
        if (made > BYTES) {
            Due.is("bytes made by " + formulas[formulas.length - 1], made, BYTES);
        }
        Due.is("steps made by " + formulas[formulas.length - 1], x.steps(1) > 0 ? 1 : 0, 1);
    }

    public static void main(String[] args) {
        run("1");
        run("[" + "1 ".repeat(39) + "]");
        run("[" + "1 ".repeat(32) + "]");
        run("f2a0r0 22r0 22");
        run("f2a0r0 9r0 20");
        run("r0 32", "r1 5 A0", "s8s7s4A1");
        run("r0 32", "r1 5 A0", "f0a0A1[1 2 3 4 5]");
        run("r0 32", "r1 5 A0", "f1a3A1[1 2 3 4 0]");
        run("r0 32", "r1 5 A0", "n0n0n0n0n0n0n0n0n0A1");
        run("r0 32", "r1 5 A0", "f2c0A1A1");
        run("r0 32", "s6s6s6A0", "[s3A1s3A1s3A1s3A1s3A1]");
        run("'a", "r1 32 A0", "r1 6 A1", "f0a0A2r0 5");
        Due.end("RoomTest");
    }
}
