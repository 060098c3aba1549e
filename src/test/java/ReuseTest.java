import java.util.Random;
import java.util.function.ToLongFunction;

/** All promises: what an object answers hangs on its text alone, not on what it was asked and what it held before. */
public final class ReuseTest {
    private static final Check CHECK = new Check();
    private static final String[] TEXTS = {
        "", " ", "1", "-0", "0", "0x0p0", "-0x0p5", "0.1", "-0.3", "1e400", "-1e400", "1e-400", "-1e-400", "Infinity",
        "-Infinity", "NaN", "-NaN", "1e", "0x1", "0x1.8p-1075", "0x1.fffffffffffff8p1023", "-0x1.00000100001p0", "0x",
        "9007199254740993.0000000000000000000000000000000000000000001", "123456789", "1234567890", "0.000000001", "x",
        "0x123456789abcdef0123456789abcdef.1p-7", "4.9e-324", "1e999999999999", "0x1p-99999999999", "12e", "1 2", "-",
        "8" + "0".repeat(300), "." + "0".repeat(300) + "123", "1." + "0".repeat(1500) + "1", "0xffffffffffffffff.8p0"
    };
    private static final String[] NAMES = {
        "kind", "fault", "bits", "floatBits", "side(false)", "side(true)", "compare(0)", "compare(1.0)", "compare(Infinity)"
    };

    public static void main(String[] args) {
        everyCallFirst();
        everyTextBehindEveryOther();
        randomRuns();
        textsThatGrowAndShrink();
        CHECK.end();
    }

    /** The answer, or a number of its own for each exception. */
    private static long answer(ExactReader x, int call) {
        try {
            return switch (call) {
                case 0 -> x.kind();
                case 1 -> x.fault();
                case 2 -> x.bits();
                case 3 -> x.floatBits();
                case 4 -> x.side(false);
                case 5 -> x.side(true);
                case 6 -> x.compare(0);
                case 7 -> x.compare(0x3FF0000000000000L);
                default -> x.compare(0x7FF0000000000000L);
            };
        } catch (IllegalStateException e) {
            return Long.MAX_VALUE;
        } catch (IllegalArgumentException e) {
            return Long.MAX_VALUE - 1;
        }
    }

    private static void check(ExactReader x, String text, int call, String when) {
        String shown = text.length() > 60 ? text.substring(0, 60) + ".." : text;
        CHECK.same(NAMES[call] + " of '" + shown + "' " + when, answer(x, call), answer(Check.reader(text), call));
    }

    private static void everyCallFirst() {
        first("bits", x -> x.bits(), Double.doubleToRawLongBits(-0.1));
        first("floatBits", x -> x.floatBits(), Float.floatToRawIntBits(-0.1f));
        first("side(false)", x -> x.side(false), -1);
        first("side(true)", x -> x.side(true), -1);
        first("compare", x -> x.compare(Double.doubleToRawLongBits(-0.1)), 1);
        first("kind", x -> x.kind(), 0);
        first("fault", x -> x.fault(), -1);
    }

    private static void first(String name, ToLongFunction<ExactReader> call, long due) {
        CHECK.same(name + " of -0.1 as the first call", call.applyAsLong(Check.reader("-0.1")), due);
    }

    private static void everyTextBehindEveryOther() {
        for (String before : TEXTS) {
            for (String text : TEXTS) {
                for (int call = 0; call < NAMES.length; call++) {
                    ExactReader x = Check.reader(before);
                    answer(x, call);
                    answer(x, 5);
                    x.wipe();
                    Check.put(x, text);
                    check(x, text, call, "behind '" + before + "'");
                }
            }
        }
    }

    private static void randomRuns() {
        Random random = new Random(31);
        for (int run = 0; run < 400; run++) {
            ExactReader x = new ExactReader();
            for (int i = 0; i < 30; i++) {
                String text = TEXTS[random.nextInt(30)];
                Check.put(x, text);
                for (int asked = random.nextInt(4); asked >= 0; asked--) {
                    check(x, text, random.nextInt(NAMES.length), "in run " + run);
                }
                CHECK.same("wipe() in run " + run, x.wipe(), text.length());
            }
        }
    }

    /** What has been cut away is not there any more, and each character that comes counts at once. */
    private static void textsThatGrowAndShrink() {
        String whole = " -0x1.8p+12d ";
        for (String text : new String[] {whole, "-Infinity ", " NaN ", "+12.5e-07f "}) {
            ExactReader x = new ExactReader();
            for (int n = 1; n <= text.length(); n++) {
                x.repeat(text.charAt(n - 1), 1);
                checkAll(x, text.substring(0, n));
            }
            for (int n = text.length() - 1; n >= 0; n--) {
                x.cut(1);
                checkAll(x, text.substring(0, n));
            }
        }
    }

    private static void checkAll(ExactReader x, String text) {
        for (int call = 0; call < NAMES.length; call++) {
            check(x, text, call, "as it grows and shrinks");
        }
    }
}
