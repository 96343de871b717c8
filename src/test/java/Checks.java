import java.nio.charset.StandardCharsets;

/** Counts answers that are not as due, and helps tests to feed texts. */
final class Checks {
    private static int wrong = 0;
    private static int asked = 0;

    private static final int MOST_SECONDS = 300;

    private Checks() { }

    /** A call that doesn't end is a failure too: the first line of every test. */
    static void mustEnd() {
        Thread watch = new Thread(() -> {
            try {
                Thread.sleep(MOST_SECONDS * 1000L);
            } catch (InterruptedException e) {
                return;
            }
            System.out.println("a call has not ended within " + MOST_SECONDS + " seconds");
            Runtime.getRuntime().halt(1);
        });
        watch.setDaemon(true);
        watch.start();
    }

    static void due(String call, long want, long got) {
        asked++;
        if (got != want) {
            wrong++;
            System.out.println(call + " answered " + got + ", due is " + want);
        }
    }

    static void due(String call, boolean want, boolean got) {
        due(call, want ? 1 : 0, got ? 1 : 0);
    }

    static void heapsAre(String what, DuneBench x, int... heaps) {
        for (int c = 0; c < heaps.length; c++) {
            due(what + ": the HEAP of " + c, heaps[c], x.cell(c, 0));
        }
    }

    /** Ends the program, with 1 if an answer was wrong. */
    static void close(String name) {
        System.out.println(name + ": " + asked + " answers looked at, " + wrong + " not as due");
        System.exit(wrong == 0 && asked > 0 ? 0 : 1);
    }

    /** The five numbers of a feed() call that bring text's bytes from on, blanks behind its end. */
    static int[] five(byte[] text, int from) {
        int[] five = new int[5];
        for (int i = 0; i < 20; i++) {
            int b = from + i < text.length ? text[from + i] & 255 : 32;
            five[i / 4] = five[i / 4] << 8 | b;
        }
        return five;
    }

    static byte[] bytes(String text) {
        return text.getBytes(StandardCharsets.ISO_8859_1);
    }

    /** The tape, empty before, holds just text then. */
    static void write(DuneBench x, String text) {
        byte[] bytes = bytes(text);
        for (int from = 0; from < bytes.length; from += 20) {
            int[] f = five(bytes, from);
            x.feed(f[0], f[1], f[2], f[3], f[4]);
        }
        x.end(bytes.length);
    }

    static int blow(DuneBench x, String text) {
        write(x, text);
        return x.winds();
    }
}
