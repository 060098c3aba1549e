import java.math.BigDecimal;
import java.util.Random;

/** Promise 11: compare. */
public final class CompareTest {
    private static final Check CHECK = new Check();
    private static final long INFINITE = 0x7FF0000000000000L;
    private static final long NEGATIVE = Long.MIN_VALUE;
    private static final long GREATEST = INFINITE - 1;
    private static final long ONE = 0x3FF0000000000000L;

    public static void main(String[] args) {
        zeros();
        plainNumbers();
        infinities();
        beyondAllDoubles();
        wrongInputs();
        longTexts();
        besideDoubles();
        randomPairs();
        CHECK.end();
    }

    private static void is(String text, long bits, int due) {
        String shown = text.length() > 60 ? text.substring(0, 60) + ".. (" + text.length() + ")" : text;
        CHECK.same(shown + " to " + Long.toHexString(bits), Check.reader(text).compare(bits), due);
    }

    private static void zeros() {
        for (String zero : new String[] {"0", "-0", "0e999999", "-0x0p-5"}) {
            is(zero, 0, 0);
            is(zero, NEGATIVE, 0);
            is(zero, 1, -1);
            is(zero, NEGATIVE | 1, 1);
            is(zero, INFINITE, -1);
            is(zero, NEGATIVE | INFINITE, 1);
        }
    }

    private static void plainNumbers() {
        is("1", ONE, 0);
        is("1", ONE + 1, -1);
        is("1", ONE - 1, 1);
        is("1", NEGATIVE | ONE, 1);
        is("-1", ONE, -1);
        is("-1", NEGATIVE | ONE, 0);
        is("-1", NEGATIVE | ONE + 1, 1);
        is("-1", NEGATIVE | ONE - 1, -1);
        is("1", 0, 1);
        is("1", NEGATIVE, 1);
        is("-1", 0, -1);
        is("-1", NEGATIVE, -1);
        is("0.1", 0x3FB999999999999AL, -1);
        is("0.1", 0x3FB9999999999999L, 1);
        is("-0.1", 0xBFB999999999999AL, 1);
        is("0x1.8p1", 0x4008000000000000L, 0);
        is("0x1p-1074", 1, 0);
        is("0x1p-1075", 1, -1);
        is("0x1p-1075", 0, 1);
        is("0x1.8p-1074", 1, 1);
        is("0x1.8p-1074", 2, -1);
        is("0x0.fffffffffffffp-1022", 0x000FFFFFFFFFFFFFL, 0);
        is("0x1p-1022", 0x0010000000000000L, 0);
        is("0x1p-1022", 0x000FFFFFFFFFFFFFL, 1);
    }

    private static void infinities() {
        is("Infinity", INFINITE, 0);
        is("+Infinity", INFINITE, 0);
        is("-Infinity", NEGATIVE | INFINITE, 0);
        is("Infinity", NEGATIVE | INFINITE, 1);
        is("-Infinity", INFINITE, -1);
        for (long bits : new long[] {0, NEGATIVE, 1, ONE, GREATEST, NEGATIVE | GREATEST}) {
            is("Infinity", bits, 1);
            is("-Infinity", bits, -1);
        }
    }

    private static void beyondAllDoubles() {
        String giant = "9".repeat(4000);
        for (String text : new String[] {"1e309", "1e999999999999", "0x1p1024", "0x1p99999999999", "1e" + giant, "0x1p" + giant, "1" + "0".repeat(4000)}) {
            is(text, GREATEST, 1);
            is(text, INFINITE, -1);
            is(text, NEGATIVE | INFINITE, 1);
            is("-" + text, NEGATIVE | GREATEST, -1);
            is("-" + text, NEGATIVE | INFINITE, 1);
        }
        for (String text : new String[] {"1e-330", "1e-331", "1e-999999999999", "0x1p-99999999999", "1e-" + giant, "0x1p-" + giant, "." + "0".repeat(4000) + "1"}) {
            is(text, 0, 1);
            is(text, NEGATIVE, 1);
            is(text, 1, -1);
            is("-" + text, 0, -1);
            is("-" + text, NEGATIVE, -1);
            is("-" + text, NEGATIVE | 1, 1);
        }
    }

    private static void wrongInputs() {
        long[] noNumbers = {
            INFINITE + 1, 0x7FF8000000000000L, Long.MAX_VALUE, NEGATIVE | INFINITE + 1, -1, 0xFFF8000000000000L
        };
        for (long bits : noNumbers) {
            CHECK.fails("1 to NaN", () -> Check.reader("1").compare(bits), Check.IAE);
            CHECK.fails("Infinity to NaN", () -> Check.reader("Infinity").compare(bits), Check.IAE);
            CHECK.fails("NaN to NaN", () -> Check.reader("NaN").compare(bits), Check.IAE);
            CHECK.fails("no number text to NaN", () -> Check.reader("1x").compare(bits), Check.ISE);
            CHECK.fails("empty text to NaN", () -> new ExactReader().compare(bits), Check.ISE);
        }
        for (long bits : new long[] {0, ONE, INFINITE, NEGATIVE | INFINITE}) {
            CHECK.fails("NaN to a number", () -> Check.reader("NaN").compare(bits), Check.IAE);
            CHECK.fails("-NaN to a number", () -> Check.reader("-NaN").compare(bits), Check.IAE);
            CHECK.fails("no number text to a number", () -> Check.reader("1e").compare(bits), Check.ISE);
        }
    }

    private static void longTexts() {
        String zeros = "0".repeat(4000);
        is("1." + zeros, ONE, 0);
        is("1." + zeros + "1", ONE, 1);
        is("-1." + zeros + "1", NEGATIVE | ONE, -1);
        is("0." + "9".repeat(4000), ONE, -1);
        is("0." + "9".repeat(4000), ONE - 1, 1);
        is("0x1." + zeros + "p0", ONE, 0);
        is("0x1." + zeros + "1p0", ONE, 1);
        is("0x0." + "f".repeat(4000) + "p0", ONE, -1);
        is("1" + zeros + "e-4000", ONE, 0);
        is("0x1" + zeros + "p-16000", ONE, 0);
    }

    /** The whole decimal of a double, and as little as a long text can tell below and above it. */
    private static void besideDoubles() {
        Random random = new Random(21);
        long[] edges = {1, 2, 3, 0xFFFFFFFFFFFFFL, 0x10000000000000L, 0x1FFFFFFFFFFFFFL, ONE, GREATEST - 1, GREATEST};
        for (int i = 0; i < 400; i++) {
            long bits = i < edges.length ? edges[i] : 1 + (random.nextLong() >>> 1) % GREATEST;
            BigDecimal exact = new BigDecimal(Double.longBitsToDouble(bits));
            String plain = exact.toPlainString();
            String text = (plain.indexOf('.') < 0 ? plain + "." : plain) + "0".repeat(4000 - plain.length());
            is(plain, bits, 0);
            is(text, bits, 0);
            is(text + "1", bits, 1);
            is("-" + text + "1", NEGATIVE | bits, -1);
            String below = exact.subtract(new BigDecimal("1e-3700")).toPlainString();
            is(below, bits, -1);
            is("-" + below, NEGATIVE | bits, 1);
            is(below, bits - 1, 1);
            is(Double.toHexString(Double.longBitsToDouble(bits)), bits, 0);
        }
    }

    private static void randomPairs() {
        Random random = new Random(22);
        for (int i = 0; i < 30000; i++) {
            String text = randomText(random, i % 2 == 0);
            long near = Double.doubleToRawLongBits(Double.parseDouble(text)) + random.nextInt(3) - 1;
            long bits = random.nextInt(4) == 0 ? random.nextLong() : near;
            double number = Double.longBitsToDouble(bits);
            if (!Double.isNaN(number)) {
                is(text, bits, due(text, number));
            }
        }
    }

    private static String randomText(Random random, boolean asDecimal) {
        String sign = random.nextBoolean() ? "-" : "";
        long digits = random.nextLong() >>> 1 + random.nextInt(60);
        return asDecimal
            ? sign + digits + "e" + (random.nextInt(680) - 350)
            : sign + "0x" + Long.toHexString(digits) + "p" + (random.nextInt(2200) - 1140);
    }

    private static int due(String text, double number) {
        if (Double.isInfinite(number)) {
            return number > 0 ? -1 : 1;
        }
        return Said.of(text).compareTo(new BigDecimal(number));
    }
}
