import java.math.BigDecimal;
import java.util.Random;

/** Promises 8, 9 and 10: bits, floatBits and side. */
public final class ReadingTest {
    private static final Check CHECK = new Check();
    private static final long NEGATIVE = Long.MIN_VALUE;

    public static void main(String[] args) {
        plainNumbers();
        zeros();
        infinitiesAndNaN();
        edgesOfDouble();
        edgesOfFloat();
        giantExponents();
        longTexts();
        littleMoreThanOne();
        sidesOfSigns();
        noNumberTexts();
        halfwayDoubles();
        halfwayFloats();
        randomDecimals();
        randomHexadecimals();
        randomLongTexts();
        CHECK.end();
    }

    private static void is(String text, long bits, int floatBits, int side, int floatSide) {
        String shown = text.length() > 60 ? text.substring(0, 60) + ".. (" + text.length() + ")" : text;
        ExactReader x = Check.reader(text);
        CHECK.same("bits of " + shown, x.bits(), bits);
        CHECK.same("floatBits of " + shown, x.floatBits(), floatBits);
        CHECK.same("side(false) of " + shown, x.side(false), side);
        CHECK.same("side(true) of " + shown, x.side(true), floatSide);
    }

    private static void isDouble(String text, long bits, int side) {
        ExactReader x = Check.reader(text);
        CHECK.same("bits of " + text, x.bits(), bits);
        CHECK.same("side(false) of " + text, x.side(false), side);
    }

    private static void isFloat(String text, int bits, int side) {
        ExactReader x = Check.reader(text);
        CHECK.same("floatBits of " + text, x.floatBits(), bits);
        CHECK.same("side(true) of " + text, x.side(true), side);
    }

    private static void plainNumbers() {
        is("1", 0x3FF0000000000000L, 0x3F800000, 0, 0);
        is("-1", 0xBFF0000000000000L, 0xBF800000, 0, 0);
        is("+2.5e0f", 0x4004000000000000L, 0x40200000, 0, 0);
        is("0.1", 0x3FB999999999999AL, 0x3DCCCCCD, 1, 1);
        is("-0.1D", 0xBFB999999999999AL, 0xBDCCCCCD, -1, -1);
        is("0.3", 0x3FD3333333333333L, 0x3E99999A, -1, 1);
        is("1e23", 0x44B52D02C7E14AF6L, 0x65A96816, -1, -1);
        is("0x1.8p1", 0x4008000000000000L, 0x40400000, 0, 0);
        is("0xA.8P-1", 0x4015000000000000L, 0x40A80000, 0, 0);
        is("9007199254740993", 0x4340000000000000L, 0x5A000000, -1, -1);
        is("9007199254740995", 0x4340000000000002L, 0x5A000000, 1, -1);
        is("16777217", 0x4170000010000000L, 0x4B800000, 0, -1);
        is("16777219", 0x4170000030000000L, 0x4B800002, 0, 1);
    }

    private static void zeros() {
        for (String zero : new String[] {"0", "0.000", ".0", "0e99999999999", "0e-99999999999", "0x0p0", "0x.00p999999999999"}) {
            is(zero, 0, 0, 0, 0);
            is("+" + zero, 0, 0, 0, 0);
            is("-" + zero, NEGATIVE, 0x80000000, 0, 0);
        }
    }

    private static void infinitiesAndNaN() {
        is("Infinity", 0x7FF0000000000000L, 0x7F800000, 0, 0);
        is("+Infinity", 0x7FF0000000000000L, 0x7F800000, 0, 0);
        is(" -Infinity ", 0xFFF0000000000000L, 0xFF800000, 0, 0);
        for (String text : new String[] {"NaN", "+NaN", "-NaN", " NaN "}) {
            is(text, 0x7FF8000000000000L, 0x7FC00000, 0, 0);
        }
    }

    private static void edgesOfDouble() {
        isDouble("0x1p-1074", 1, 0);
        isDouble("0x0.8p-1074", 0, -1);
        isDouble("0x0.800000000000000000000000000001p-1074", 1, 1);
        isDouble("0x0.7fffffffffffffffffffffffffffffp-1074", 0, -1);
        isDouble("-0x0.8p-1074", NEGATIVE, 1);
        isDouble("0x1.8p-1074", 2, 1);
        isDouble("0x2.8p-1074", 2, -1);
        isDouble("0x1p-1075", 0, -1);
        isDouble("0x1p-1076", 0, -1);
        isDouble("0x1.fffffffp-1077", 0, -1);
        isDouble("0x0.fffffffffffffp-1022", 0x000FFFFFFFFFFFFFL, 0);
        isDouble("0x0.fffffffffffff8p-1022", 0x0010000000000000L, 1);
        isDouble("0x0.fffffffffffff7p-1022", 0x000FFFFFFFFFFFFFL, -1);
        isDouble("0x1p-1022", 0x0010000000000000L, 0);
        isDouble("0x1.fffffffffffffp1023", 0x7FEFFFFFFFFFFFFFL, 0);
        isDouble("0x1.fffffffffffff7ffffffffffffffp1023", 0x7FEFFFFFFFFFFFFFL, -1);
        isDouble("0x1.fffffffffffff8p1023", 0x7FF0000000000000L, 1);
        isDouble("-0x1.fffffffffffff8p1023", 0xFFF0000000000000L, -1);
        isDouble("0x1p1024", 0x7FF0000000000000L, 1);
        isDouble("0x1.fffffffffffff8p0", 0x4000000000000000L, 1);
        isDouble("1.7976931348623157e308", 0x7FEFFFFFFFFFFFFFL, 1);
        isDouble("1.7976931348623158e308", 0x7FEFFFFFFFFFFFFFL, -1);
        isDouble("1.7976931348623159e308", 0x7FF0000000000000L, 1);
        isDouble("4.9e-324", 1, 1);
        isDouble("2.4703282292062327e-324", 0, -1);
        isDouble("2.4703282292062328e-324", 1, 1);
        isDouble("2.2250738585072011e-308", 0x000FFFFFFFFFFFFFL, -1);
        isDouble("2.2250738585072014e-308", 0x0010000000000000L, -1);
    }

    private static void edgesOfFloat() {
        isFloat("0x1p-149", 1, 0);
        isFloat("0x1p-150", 0, -1);
        isFloat("0x1.0000000000000000000001p-150", 1, 1);
        isFloat("-0x1p-150", 0x80000000, 1);
        isFloat("0x3p-150", 2, 1);
        isFloat("0x0.fffffep-126", 0x007FFFFF, 0);
        isFloat("0x0.ffffffp-126", 0x00800000, 1);
        isFloat("0x1.fffffep127", 0x7F7FFFFF, 0);
        isFloat("0x1.fffffefffffffffffffffp127", 0x7F7FFFFF, -1);
        isFloat("0x1.ffffffp127", 0x7F800000, 1);
        isFloat("-0x1.ffffffp127", 0xFF800000, -1);
        isFloat("1e300", 0x7F800000, 1);
        isFloat("-1e-300", 0x80000000, 1);
        isFloat("3.4028235e38", 0x7F7FFFFF, -1);
        isFloat("3.4028236e38", 0x7F800000, 1);
        // to the double first, and then to the float, would be another number
        isFloat("0x1.0000010000000000001p0", 0x3F800001, 1);
        isFloat("0x1.000002fffffffffffffp0", 0x3F800001, -1);
        isFloat("1.00000017881393432617187499", 0x3F800001, -1);
        isFloat("1.00000017881393432617187500", 0x3F800002, 1);
        isFloat("1.00000017881393432617187501", 0x3F800002, 1);
    }

    private static void giantExponents() {
        String giant = "9".repeat(4000);
        is("1e" + giant, 0x7FF0000000000000L, 0x7F800000, 1, 1);
        is("-1e+" + giant, 0xFFF0000000000000L, 0xFF800000, -1, -1);
        is("1e-" + giant, 0, 0, -1, -1);
        is("-1e-" + giant, NEGATIVE, 0x80000000, 1, 1);
        is("0e" + giant, 0, 0, 0, 0);
        is("0x1p" + giant, 0x7FF0000000000000L, 0x7F800000, 1, 1);
        is("-0x1p-" + giant, NEGATIVE, 0x80000000, 1, 1);
        is("1e" + "0".repeat(4000) + "1", 0x4024000000000000L, 0x41200000, 0, 0);
        is("0x1p-" + "0".repeat(4000) + "1", 0x3FE0000000000000L, 0x3F000000, 0, 0);
        for (String exponent : new String[] {"2147483647", "2147483648", "4294967296", "9223372036854775808", "18446744073709551617"}) {
            is("1e" + exponent, 0x7FF0000000000000L, 0x7F800000, 1, 1);
            is("1e-" + exponent, 0, 0, -1, -1);
            is("0x1p" + exponent, 0x7FF0000000000000L, 0x7F800000, 1, 1);
            is("0x1p-" + exponent, 0, 0, -1, -1);
        }
    }

    private static void longTexts() {
        String zeros = "0".repeat(4000);
        is("1" + zeros + "e-4000", 0x3FF0000000000000L, 0x3F800000, 0, 0);
        is("0." + zeros + "1e4001", 0x3FF0000000000000L, 0x3F800000, 0, 0);
        is(zeros + "1", 0x3FF0000000000000L, 0x3F800000, 0, 0);
        is("1." + zeros + "1", 0x3FF0000000000000L, 0x3F800000, -1, -1);
        is("-1." + zeros + "1", 0xBFF0000000000000L, 0xBF800000, 1, 1);
        is("1" + zeros, 0x7FF0000000000000L, 0x7F800000, 1, 1);
        is("." + zeros + "1", 0, 0, -1, -1);
        is("0x1" + zeros + "p-16000", 0x3FF0000000000000L, 0x3F800000, 0, 0);
        is("0x." + zeros + "1p16004", 0x3FF0000000000000L, 0x3F800000, 0, 0);
        is("0x1." + zeros + "1p0", 0x3FF0000000000000L, 0x3F800000, -1, -1);
        is("0x1.00000000000008" + zeros + "1p0", 0x3FF0000000000001L, 0x3F800000, 1, -1);
        is("0x1.000001" + zeros + "1p0", 0x3FF0000010000000L, 0x3F800001, -1, 1);
        is("9007199254740993." + zeros + "1", 0x4340000000000001L, 0x5A000000, 1, -1);
        is("9007199254740992." + "9".repeat(4000), 0x4340000000000000L, 0x5A000000, -1, -1);
        is("9".repeat(4000) + "e-4000", 0x3FF0000000000000L, 0x3F800000, 1, 1);
    }

    /** Whatever the length, the last digit is not lost. */
    private static void littleMoreThanOne() {
        for (int n = 20; n < 1300; n++) {
            is("1." + "0".repeat(n) + "1", 0x3FF0000000000000L, 0x3F800000, -1, -1);
            is("0x1." + "0".repeat(n) + "1p0", 0x3FF0000000000000L, 0x3F800000, -1, -1);
            is("9007199254740993." + "0".repeat(n) + "1", 0x4340000000000001L, 0x5A000000, 1, -1);
        }
    }

    private static void sidesOfSigns() {
        is("0.7", 0x3FE6666666666666L, 0x3F333333, -1, -1);
        is("-0.7", 0xBFE6666666666666L, 0xBF333333, 1, 1);
        is("0.2", 0x3FC999999999999AL, 0x3E4CCCCD, 1, 1);
        is("-0.2", 0xBFC999999999999AL, 0xBE4CCCCD, -1, -1);
        is("0.15", 0x3FC3333333333333L, 0x3E19999A, -1, 1);
        is("-0.15", 0xBFC3333333333333L, 0xBE19999A, 1, -1);
    }

    private static void noNumberTexts() {
        for (String text : new String[] {"", " ", "1e", "0x1", "nan", "1 2", "Infinit", "-"}) {
            ExactReader x = Check.reader(text);
            CHECK.fails("bits of '" + text + "'", x::bits, Check.ISE);
            CHECK.fails("floatBits of '" + text + "'", x::floatBits, Check.ISE);
            CHECK.fails("side(false) of '" + text + "'", () -> x.side(false), Check.ISE);
            CHECK.fails("side(true) of '" + text + "'", () -> x.side(true), Check.ISE);
        }
    }

    /** Just between two doubles, and as little as a long text can tell below and above it. */
    private static void halfwayDoubles() {
        Random random = new Random(11);
        long[] edges = {0, 1, 2, 0xFFFFFFFFFFFFFL, 0x10000000000000L, 0x3FF0000000000000L, 0x7FEFFFFFFFFFFFFEL, 0x7FEFFFFFFFFFFFFFL};
        for (int i = 0; i < 400; i++) {
            long bits = i < edges.length ? edges[i] : (random.nextLong() >>> 1) % 0x7FF0000000000000L;
            BigDecimal low = new BigDecimal(Double.longBitsToDouble(bits));
            BigDecimal high = bits == 0x7FEFFFFFFFFFFFFFL
                ? Said.powerOfTwo(1024) : new BigDecimal(Double.longBitsToDouble(bits + 1));
            around(low.add(high).multiply(new BigDecimal("0.5")), bits, true);
        }
    }

    private static void halfwayFloats() {
        Random random = new Random(12);
        int[] edges = {0, 1, 2, 0x7FFFFF, 0x800000, 0x3F800000, 0x7F7FFFFE, 0x7F7FFFFF};
        for (int i = 0; i < 400; i++) {
            int bits = i < edges.length ? edges[i] : (random.nextInt() >>> 1) % 0x7F800000;
            BigDecimal low = new BigDecimal(Float.intBitsToFloat(bits));
            BigDecimal high = bits == 0x7F7FFFFF ? Said.powerOfTwo(128) : new BigDecimal(Float.intBitsToFloat(bits + 1));
            around(low.add(high).multiply(new BigDecimal("0.5")), bits, false);
        }
    }

    private static void around(BigDecimal half, long low, boolean asDouble) {
        String text = half.toPlainString();
        String longer = (text.indexOf('.') < 0 ? text + "." : text) + "0".repeat(4000 - text.length());
        BigDecimal step = new BigDecimal("1e-4000");
        long even = low + (low & 1);
        boolean isUp = even > low;
        check(text, even, isUp ? 1 : -1, asDouble);
        check(longer, even, isUp ? 1 : -1, asDouble);
        check(longer + "1", low + 1, 1, asDouble);
        String below = half.subtract(step).toPlainString();
        if (below.length() <= 4096) {
            check(below, low, -1, asDouble);
        }
        String scientific = half.unscaledValue() + "E" + -half.scale();
        check(scientific, even, isUp ? 1 : -1, asDouble);
    }

    private static void check(String text, long bits, int side, boolean asDouble) {
        ExactReader x = Check.reader(text);
        CHECK.same("read " + text, asDouble ? x.bits() : x.floatBits(), bits);
        CHECK.same("side of " + text, x.side(!asDouble), side);
        x = Check.reader("-" + text);
        if (text.length() < 4096) {
            CHECK.same("read -" + text, asDouble ? x.bits() : x.floatBits(), asDouble ? bits | NEGATIVE : (int) bits | 0x80000000);
            CHECK.same("side of -" + text, x.side(!asDouble), -side);
        }
    }

    private static void randomDecimals() {
        Random random = new Random(13);
        for (int i = 0; i < 30000; i++) {
            StringBuilder text = new StringBuilder(random.nextBoolean() ? "-" : "");
            int digits = 1 + random.nextInt(random.nextInt(10) == 0 ? 60 : 20);
            int point = random.nextInt(2 * digits);
            for (int d = 0; d < digits; d++) {
                text.append(d == point ? "." : "").append((char) ('0' + random.nextInt(10)));
            }
            if (random.nextInt(8) != 0) {
                text.append(random.nextBoolean() ? 'e' : 'E').append(random.nextInt(i % 2 == 0 ? 700 : 90) - (i % 2 == 0 ? 365 : 50));
            }
            text.append(random.nextInt(5) == 0 ? "f" : "");
            againstLibrary(text.toString());
        }
    }

    private static void randomHexadecimals() {
        Random random = new Random(14);
        for (int i = 0; i < 30000; i++) {
            StringBuilder text = new StringBuilder(random.nextBoolean() ? "-0x" : "0X");
            int digits = 1 + random.nextInt(random.nextInt(10) == 0 ? 60 : 20);
            int point = random.nextInt(2 * digits);
            String choice = random.nextInt(3) == 0 ? "0f8" : "0123456789abcdefABCDEF";
            for (int d = 0; d < digits; d++) {
                text.append(d == point ? "." : "").append(choice.charAt(random.nextInt(choice.length())));
            }
            int exponent = i % 2 == 0 ? random.nextInt(2400) - 1250 : random.nextInt(340) - 190;
            text.append(random.nextBoolean() ? 'p' : 'P').append(exponent).append(random.nextInt(5) == 0 ? "D" : "");
            againstLibrary(text.toString());
        }
    }

    private static void randomLongTexts() {
        Random random = new Random(15);
        for (int i = 0; i < 600; i++) {
            int digits = 800 + random.nextInt(3200);
            StringBuilder text = new StringBuilder();
            for (int d = 0; d < digits; d++) {
                text.append((char) ('0' + random.nextInt(10)));
            }
            text.insert(random.nextInt(digits), '.');
            text.append('e').append(random.nextInt(700) - 365 - text.indexOf("."));
            againstLibrary(text.toString());
        }
    }

    private static void againstLibrary(String text) {
        BigDecimal said = Said.of(text);
        double asDouble = Double.parseDouble(text);
        float asFloat = Float.parseFloat(text);
        int side = Double.isInfinite(asDouble) ? (asDouble > 0 ? 1 : -1) : new BigDecimal(asDouble).compareTo(said);
        int floatSide = Float.isInfinite(asFloat) ? (asFloat > 0 ? 1 : -1) : new BigDecimal(asFloat).compareTo(said);
        is(text, Double.doubleToRawLongBits(asDouble), Float.floatToRawIntBits(asFloat), side, floatSide);
    }
}
