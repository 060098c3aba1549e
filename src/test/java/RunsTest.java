import java.util.Random;
import java.util.function.LongSupplier;

/**
 * All promises: runs of 512 calls of every kind against a plain model, which is the text as a String; what is asked of
 * the text must be what a new object that holds only this text answers.
 */
public final class RunsTest {
    private static final Check CHECK = new Check();
    private static final int MOST = 4096;
    private static final int CALLS = 512;
    private static final long THROWN_ISE = Long.MAX_VALUE;
    private static final long THROWN_IAE = Long.MAX_VALUE - 1;
    private static final String[] PIECES = {
        "1", "0", "25", ".", "e", "e-3", "E+12", "-", "+", " ", "\t\n", "0x", "0X1.", "f", "d", "p", "p-1074", "P7", "NaN",
        "Infinity", "\u00ff", "99999999", "a", "0.5", "e308", "\1"
    };
    private static final int[] CHARACTERS = {
        '0', '1', '9', ' ', '.', 'e', 'f', 'x', 1, 255, 32, 33, 0, -1, 256, Integer.MAX_VALUE, Integer.MIN_VALUE
    };
    private static final int[] COUNTS = {
        0, 1, 1, 1, 2, 3, 17, 300, 2000, 4095, 4096, 4097, -1, Integer.MAX_VALUE, Integer.MIN_VALUE
    };

    private final Random random;
    private final ExactReader reader = new ExactReader();
    private String text = "";
    private int number = 0;

    private RunsTest(int seed) {
        random = new Random(seed);
    }

    public static void main(String[] args) {
        for (int seed = 0; seed < 300; seed++) {
            new RunsTest(seed).run();
        }
        CHECK.end();
    }

    private void run() {
        while (number < CALLS) {
            number++;
            switch (random.nextInt(10)) {
                case 0, 1, 2 -> write(Check.packed(PIECES[random.nextInt(PIECES.length)]) << (8 * random.nextInt(2)));
                case 3 -> repeat(CHARACTERS[random.nextInt(CHARACTERS.length)], COUNTS[random.nextInt(COUNTS.length)]);
                case 4, 5 -> cut(random.nextInt(3) > 0 ? 1 + random.nextInt(4) : COUNTS[random.nextInt(COUNTS.length)]);
                case 6 -> wipeNowAndThen();
                default -> ask(random.nextInt(7), bits());
            }
        }
    }

    private void same(String call, long got, long due) {
        CHECK.same(call + " as call " + number + " with " + text.length() + " characters", got, due);
    }

    private void write(long characters) {
        StringBuilder more = new StringBuilder();
        for (int i = 0; i < 8; i++) {
            int c = (int) (characters >>> 8 * i) & 255;
            more.append(c == 0 ? "" : String.valueOf((char) c));
        }
        long due = add(more.toString());
        same("write(" + characters + ")", reader.write(characters), due);
    }

    private void repeat(int c, int n) {
        long due = c < 1 || c > 255 || n < 0 ? THROWN_IAE
            : n > MOST ? ExactReader.NONE : add(String.valueOf((char) c).repeat(n));
        same("repeat(" + c + ", " + n + ")", caught(() -> reader.repeat(c, n)), due);
    }

    private long add(String more) {
        if (text.length() + more.length() > MOST) {
            return ExactReader.NONE;
        }
        text += more;
        return text.length();
    }

    private void cut(int n) {
        if (n >= 0) {
            text = text.substring(0, text.length() - Math.min(n, text.length()));
        }
        long due = n < 0 ? THROWN_IAE : text.length();
        same("cut(" + n + ")", caught(() -> reader.cut(n)), due);
    }

    private void wipeNowAndThen() {
        if (random.nextInt(3) == 0) {
            long due = text.length();
            text = "";
            same("wipe()", reader.wipe(), due);
        }
    }

    private long bits() {
        return switch (random.nextInt(4)) {
            case 0 -> 0;
            case 1 -> 0x7FF0000000000000L;
            case 2 -> 0xFFF8000000000000L;
            default -> random.nextLong();
        };
    }

    private void ask(int question, long bits) {
        ExactReader fresh = Check.reader(text);
        same("question " + question + " (bits " + bits + ") of '" + text + "'", answer(reader, question, bits),
            answer(fresh, question, bits));
    }

    private static long answer(ExactReader x, int question, long bits) {
        return caught(() -> switch (question) {
            case 0 -> x.kind();
            case 1 -> x.fault();
            case 2 -> x.bits();
            case 3 -> x.floatBits();
            case 4 -> x.side(false);
            case 5 -> x.side(true);
            default -> x.compare(bits);
        });
    }

    private static long caught(LongSupplier call) {
        try {
            return call.getAsLong();
        } catch (IllegalStateException e) {
            return THROWN_ISE;
        } catch (IllegalArgumentException e) {
            return THROWN_IAE;
        }
    }
}
