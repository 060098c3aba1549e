import java.math.BigDecimal;

/** The boundary cases of promises 8 to 11, and of what the terms say of numbers: a method for each sentence. */
public final class NumberBoundaryTest {
    private static final long SIGN = Long.MIN_VALUE;
    private static final long ONE = 0x3FF0000000000000L;
    private static final long LEAST_FULL = 0x0010000000000000L;
    private static final long GREATEST = 0x7FEFFFFFFFFFFFFFL;
    private static final long INFINITE = 0x7FF0000000000000L;
    private static final long NO_NUMBER = 0x7FF8000000000000L;
    private static final int FLOAT_SIGN = 0x80000000;
    private static final int FLOAT_ONE = 0x3F800000;
    private static final int LEAST_FULL_FLOAT = 0x00800000;
    private static final int GREATEST_FLOAT = 0x7F7FFFFF;
    private static final int INFINITE_FLOAT = 0x7F800000;
    private static final int NO_NUMBER_FLOAT = 0x7FC00000;
    private static final String ZEROS = "0".repeat(4000);
    private static final String NINES = "9".repeat(4000);
    private static final String[] NO_NUMBER_TEXTS = {
        "", " ", "-", ".", "1x", "1e", "0x", "0x1", "0x1p", "nan", "Infinit", "1 1", "NaNf", "1".repeat(4095) + "x"
    };
    private static final Check CHECK = new Check();

    public static void main(String[] args) {
        ofAnyLength();
        decimalSays();
        decimalExponentSays();
        hexadecimalSays();
        hexadecimalExponentSays();
        belowZeroWithTheSign();
        suffixSaysNothing();
        precisionOfDouble();
        precisionOfFloat();
        leastExponentOfDouble();
        leastExponentOfFloat();
        evenOfTwoThatAreAsNear();
        infinityFromTwoToThe1024();
        infinityFromTwoToThe128();
        signOfZeroAndInfinity();
        fieldOfDouble();
        fieldOfFloat();
        bitsOfInfinity();
        bitsOfNaN();
        namedFirst();
        noNumberText();
        sideBelowAtAbove();
        sideOfInfinityAndNaN();
        sideOfAnInfinityRead();
        sideOfAZeroRead();
        compareBelowAtAbove();
        compareZeros();
        compareInfinities();
        compareInfinityInTheText();
        compareNotWithTheNumberRead();
        compareRefusesNaN();
        compareRefusesBits();
        CHECK.end();
    }

    private static String shown(String text) {
        return text.length() > 60 ? text.substring(0, 60) + ".. (" + text.length() + ")" : text;
    }

    private static void asDouble(String text, long bits, int side) {
        ExactReader x = Check.reader(text);
        CHECK.same("bits of " + shown(text), x.bits(), bits);
        CHECK.same("side(false) of " + shown(text), x.side(false), side);
    }

    private static void asFloat(String text, int bits, int side) {
        ExactReader x = Check.reader(text);
        CHECK.same("floatBits of " + shown(text), x.floatBits(), bits);
        CHECK.same("side(true) of " + shown(text), x.side(true), side);
    }

    /** A text that says just a number that both formats have. */
    private static void says(String text, float number) {
        asDouble(text, Double.doubleToRawLongBits(number), 0);
        asFloat(text, Float.floatToRawIntBits(number), 0);
        compares(text, Double.doubleToRawLongBits(number), 0);
    }

    private static void compares(String text, long bits, int due) {
        CHECK.same(shown(text) + " to " + Long.toHexString(bits), Check.reader(text).compare(bits), due);
    }

    private static void ofAnyLength() {
        CHECK.sentence("of any length, read as the doubles and floats that are nearest to just what they say");
        says("1" + "0".repeat(4000) + "e-4000", 1);
        says("0".repeat(4095) + "3", 3);
        says("." + "0".repeat(4000) + "5e4001", 5);
        says("1." + "0".repeat(4094), 1);
        says("0x" + "0".repeat(4091) + "3p0", 3);
        says("0x1" + "0".repeat(4000) + "p-16000", 1);
        says("0x." + "0".repeat(4000) + "8p16004", 8);
        asDouble("1." + "0".repeat(4093) + "1", ONE, -1);
        asDouble("0x1." + "0".repeat(4089) + "1p0", ONE, -1);
        asDouble("9007199254740993." + "0".repeat(4078) + "1", 0x4340000000000001L, 1);
        asDouble("9007199254740992." + "9".repeat(4079), 0x4340000000000000L, -1);
        asFloat("16777217." + "0".repeat(4086) + "1", 0x4B800001, 1);
        asFloat("16777216." + "9".repeat(4087), 0x4B800000, -1);
        asFloat("0x1000001." + "0".repeat(4083) + "1p0", 0x4B800001, 1);
        compares("1." + "0".repeat(4093) + "1", ONE, 1);
        // what is behind the last digit that is not 0 does not hide it
        for (int n : new int[] {12, 13, 14, 15, 16, 17, 18, 30, 300, 900, 2000}) {
            asDouble("0x1." + "0".repeat(n) + "01" + "0".repeat(n) + "p0", ONE, -1);
            asDouble("1." + "0".repeat(n) + "00001" + "0".repeat(n), ONE, -1);
            asDouble("9007199254740993." + "0".repeat(n) + "1" + "0".repeat(n), 0x4340000000000001L, 1);
            asFloat("0x1000001." + "0".repeat(n) + "1" + "0".repeat(n) + "p0", 0x4B800001, 1);
        }
        compares("." + "9".repeat(4095), ONE, -1);
        compares("0x." + "f".repeat(4091) + "p0", ONE, -1);
    }

    private static void decimalSays() {
        CHECK.sentence("What a decimal SAYS is the number that its digits (and the point) are");
        says("0", 0);
        says("9", 9);
        says("10", 10);
        says("010", 10);
        says(".5", 0.5f);
        says("5.", 5);
        says("12.75", 12.75f);
        says("0012.7500", 12.75f);
        says("16777215.", 16777215);
    }

    private static void decimalExponentSays() {
        CHECK.sentence("times 10 to its exponent");
        says("5e0", 5);
        says("5e-0", 5);
        says("5e1", 50);
        says("5e+1", 50);
        says("5e-1", 0.5f);
        says("12.5E2", 1250);
        says("1250e-2", 12.5f);
        says("5e" + ZEROS + "1", 50);
        says("5e-" + ZEROS + "1", 0.5f);
        for (String exponent : new String[] {"400", "99999", "2147483648", "4294967296", "9223372036854775808", NINES}) {
            asDouble("1e" + exponent, INFINITE, 1);
            asDouble("1e-" + exponent, 0, -1);
            asDouble("0e" + exponent, 0, 0);
            asFloat("1e+" + exponent, INFINITE_FLOAT, 1);
            asFloat("1e-" + exponent, 0, -1);
            asFloat("0e-" + exponent, 0, 0);
        }
    }

    private static void hexadecimalSays() {
        CHECK.sentence("a hexadecimal the number that its digits (and the point) are to the base 16");
        String digits = "0123456789abcdefABCDEF";
        for (int i = 0; i < digits.length(); i++) {
            int digit = i < 16 ? i : i - 6;
            says("0x" + digits.charAt(i) + "p0", digit);
            says("0x." + digits.charAt(i) + "p0", digit / 16f);
            says("0x1" + digits.charAt(i) + ".p0", 16 + digit);
        }
        says("0x10p0", 16);
        says("0x0.8p0", 0.5f);
        says("0xf.ffp0", 15.99609375f);
    }

    private static void hexadecimalExponentSays() {
        CHECK.sentence("times 2 to its exponent");
        says("0x1p1", 2);
        says("0x1p-1", 0.5f);
        says("0x1p+10", 1024);
        says("0x1P010", 1024);
        says("0x1p" + ZEROS + "1", 2);
        says("0x1p-" + ZEROS + "1", 0.5f);
        for (String exponent : new String[] {"1200", "99999", "2147483648", "4294967296", "9223372036854775808", NINES}) {
            asDouble("0x1p" + exponent, INFINITE, 1);
            asDouble("0x1p-" + exponent, 0, -1);
            asDouble("0x0p" + exponent, 0, 0);
            asFloat("0x1p+" + exponent, INFINITE_FLOAT, 1);
            asFloat("0x1p-" + exponent, 0, -1);
            asFloat("0x0p-" + exponent, 0, 0);
        }
    }

    private static void belowZeroWithTheSign() {
        CHECK.sentence("each below 0 with the sign -");
        says("-5e1", -50);
        says("+5e1", 50);
        says(" -0x1p1", -2);
        says(" +0x1p1", 2);
        says("5e-1", 0.5f);
        says("0x1p-1", 0.5f);
        says("-5e-1", -0.5f);
    }

    private static void suffixSaysNothing() {
        CHECK.sentence("(A suffix says nothing.)");
        for (String suffix : new String[] {"d", "D", "f", "F"}) {
            says("1" + suffix, 1);
            says("1e1" + suffix, 10);
            says("0x1p1" + suffix, 2);
            asDouble("0.1" + suffix, 0x3FB999999999999AL, 1);
            asFloat("0.1" + suffix, 0x3DCCCCCD, 1);
            asDouble("0x1.0000000000001p0" + suffix, ONE + 1, 0);
            asFloat("0x1.0000010000000000001p0" + suffix, FLOAT_ONE + 1, 1);
        }
    }

    private static void precisionOfDouble() {
        CHECK.sentence("m below 2 to the p in size (DOUBLE, 53)");
        asDouble("9007199254740991", 0x433FFFFFFFFFFFFFL, 0);
        asDouble("9007199254740992", 0x4340000000000000L, 0);
        asDouble("9007199254740993", 0x4340000000000000L, -1);
        asDouble("9007199254740994", 0x4340000000000001L, 0);
        asDouble("-9007199254740993", 0xC340000000000000L, 1);
        asDouble("0x1fffffffffffffp0", 0x433FFFFFFFFFFFFFL, 0);
        asDouble("0x1fffffffffffff.8p0", 0x4340000000000000L, 1);
        asDouble("0x1fffffffffffff.7fffffffffffffp0", 0x433FFFFFFFFFFFFFL, -1);
        asDouble("0x1.0000000000001p0", ONE + 1, 0);
        asDouble("0x1.00000000000008p0", ONE, -1);
        asDouble("0x1.000000000000080000000000000000001p0", ONE + 1, 1);
        asDouble("0x1.00000000000007fffffffffffffffffffp0", ONE, -1);
    }

    private static void precisionOfFloat() {
        CHECK.sentence("m below 2 to the p in size (FLOAT, 24)");
        asFloat("16777215", 0x4B7FFFFF, 0);
        asFloat("16777216", 0x4B800000, 0);
        asFloat("16777217", 0x4B800000, -1);
        asFloat("16777218", 0x4B800001, 0);
        asFloat("-16777217", 0xCB800000, 1);
        asFloat("0xffffff.8p0", 0x4B800000, 1);
        asFloat("0xffffff.7fffffffffffffffffffp0", 0x4B7FFFFF, -1);
        asFloat("0x1.000002p0", FLOAT_ONE + 1, 0);
        asFloat("0x1.000001p0", FLOAT_ONE, -1);
        asFloat("0x1.00000100000000000000000000001p0", FLOAT_ONE + 1, 1);
        asFloat("0x1.000000fffffffffffffffffffffffp0", FLOAT_ONE, -1);
    }

    private static void leastExponentOfDouble() {
        CHECK.sentence("k not below the least exponent (DOUBLE, -1074)");
        asDouble("0x1p-1074", 1, 0);
        asDouble("0x1p-1075", 0, -1);
        asDouble("0x1.000000000000000000000000000001p-1075", 1, 1);
        asDouble("0x0.ffffffffffffffffffffffffffffffp-1075", 0, -1);
        asDouble("0x1p-1076", 0, -1);
        asDouble("0x1.ffffffffffffffffp-1076", 0, -1);
        asDouble("0x1p-1138", 0, -1);
        asDouble("0x1p-1139", 0, -1);
        asDouble("0x3p-1075", 2, 1);
        asDouble("0x5p-1075", 2, -1);
        asDouble("-0x1p-1075", SIGN, 1);
        asDouble("-0x1.8p-1075", SIGN | 1, -1);
        asDouble("4.9406564584124654e-324", 1, 1);
        asDouble("4.9406564584124655e-324", 1, -1);
        asDouble("2.4703282292062327e-324", 0, -1);
        asDouble("2.4703282292062328e-324", 1, 1);
        asDouble("2e-324", 0, -1);
        asDouble("3e-324", 1, 1);
    }

    private static void leastExponentOfFloat() {
        CHECK.sentence("k not below the least exponent (FLOAT, -149)");
        asFloat("0x1p-149", 1, 0);
        asFloat("0x1p-150", 0, -1);
        asFloat("0x1.000000000000000000000000000001p-150", 1, 1);
        asFloat("0x0.ffffffffffffffffffffffffffffffp-150", 0, -1);
        asFloat("0x1p-151", 0, -1);
        asFloat("0x3p-150", 2, 1);
        asFloat("0x5p-150", 2, -1);
        asFloat("-0x1p-150", FLOAT_SIGN, 1);
        asFloat("-0x1.8p-150", FLOAT_SIGN | 1, -1);
        asFloat("1.401298464324817e-45", 1, 1);
        asFloat("1.401298464324818e-45", 1, -1);
        asFloat("7.0064923216240853e-46", 0, -1);
        asFloat("7.0064923216240854e-46", 1, 1);
        asFloat("0x1p-1074", 0, -1);
    }

    private static void evenOfTwoThatAreAsNear() {
        CHECK.sentence("of two that are as near, the one whose m is even");
        asDouble("0x1.00000000000008p0", ONE, -1);
        asDouble("0x1.00000000000018p0", ONE + 2, 1);
        asDouble("0x1.00000000000028p0", ONE + 2, -1);
        asDouble("-0x1.00000000000018p0", SIGN | ONE + 2, -1);
        asDouble("9007199254740993", 0x4340000000000000L, -1);
        asDouble("9007199254740995", 0x4340000000000002L, 1);
        asDouble("9007199254740995." + ZEROS, 0x4340000000000002L, 1);
        asFloat("0x1.000001p0", FLOAT_ONE, -1);
        asFloat("0x1.000003p0", FLOAT_ONE + 2, 1);
        asFloat("0x1.000005p0", FLOAT_ONE + 2, -1);
        asFloat("16777217", 0x4B800000, -1);
        asFloat("16777219", 0x4B800002, 1);
        asFloat("16777219." + ZEROS, 0x4B800002, 1);
        // the upper one is a power of 2, so its m is even, too
        asDouble("0x1.fffffffffffff8p0", 0x4000000000000000L, 1);
        asFloat("0x1.ffffffp0", 0x40000000, 1);
    }

    private static void infinityFromTwoToThe1024() {
        CHECK.sentence("infinity is read, if that is 2 to the 1024 (DOUBLE), or more in size");
        asDouble("0x1.fffffffffffffp1023", GREATEST, 0);
        asDouble("0x1.fffffffffffff7ffffffffffffffffffffp1023", GREATEST, -1);
        asDouble("0x1.fffffffffffff8p1023", INFINITE, 1);
        asDouble("0x1.fffffffffffff8000000000000000001p1023", INFINITE, 1);
        asDouble("0x1.fffffffffffffffffffffp1023", INFINITE, 1);
        asDouble("0x1p1024", INFINITE, 1);
        asDouble("0x1p1025", INFINITE, 1);
        asDouble("0x1p1023", 0x7FE0000000000000L, 0);
        asDouble("-0x1.fffffffffffff8p1023", SIGN | INFINITE, -1);
        asDouble("-0x1.fffffffffffff7ffffffffffffffffffffp1023", SIGN | GREATEST, 1);
        asDouble("1.797693134862315807e308", GREATEST, -1);
        asDouble("1.797693134862315808e308", INFINITE, 1);
        asDouble("1e308", 0x7FE1CCF385EBC8A0L, 1);
        asDouble("2e308", INFINITE, 1);
        asDouble("1e309", INFINITE, 1);
        asDouble("1e310", INFINITE, 1);
        asDouble("1e311", INFINITE, 1);
    }

    private static void infinityFromTwoToThe128() {
        CHECK.sentence("infinity is read, if that is 2 to the 128 (FLOAT), or more in size");
        asFloat("0x1.fffffep127", GREATEST_FLOAT, 0);
        asFloat("0x1.fffffeffffffffffffffffffffffp127", GREATEST_FLOAT, -1);
        asFloat("0x1.ffffffp127", INFINITE_FLOAT, 1);
        asFloat("0x1.ffffffffffffffffp127", INFINITE_FLOAT, 1);
        asFloat("0x1p128", INFINITE_FLOAT, 1);
        asFloat("0x1p127", 0x7F000000, 0);
        asFloat("-0x1.ffffffp127", FLOAT_SIGN | INFINITE_FLOAT, -1);
        asFloat("-0x1.fffffeffffffffffffffffffffffp127", FLOAT_SIGN | GREATEST_FLOAT, 1);
        asFloat("340282356779733661637539395458142568447", GREATEST_FLOAT, -1);
        asFloat("340282356779733661637539395458142568448", INFINITE_FLOAT, 1);
        asFloat("3.4028235e38", GREATEST_FLOAT, -1);
        asFloat("3.5e38", INFINITE_FLOAT, 1);
        asFloat("1e308", INFINITE_FLOAT, 1);
        asDouble("0x1p128", 0x47F0000000000000L, 0);
    }

    private static void signOfZeroAndInfinity() {
        CHECK.sentence("What is read has the sign that the text has, also when it is 0 or infinity.");
        for (String zero : new String[] {"0", ".0", "0e99", "0x0p0", "0x.0p-99", "0f"}) {
            asDouble(zero, 0, 0);
            asDouble("+" + zero, 0, 0);
            asDouble("-" + zero, SIGN, 0);
            asFloat("+" + zero, 0, 0);
            asFloat("-" + zero, FLOAT_SIGN, 0);
        }
        for (String tiny : new String[] {"1e-400", "1e-99999999999", "0x1p-2000", "0x1p-1075"}) {
            asDouble("+" + tiny, 0, -1);
            asDouble("-" + tiny, SIGN, 1);
            asFloat("+" + tiny, 0, -1);
            asFloat("-" + tiny, FLOAT_SIGN, 1);
        }
        for (String giant : new String[] {"1e400", "1e99999999999", "0x1p2000", "0x1p1024"}) {
            asDouble("+" + giant, INFINITE, 1);
            asDouble("-" + giant, SIGN | INFINITE, -1);
            asFloat("+" + giant, INFINITE_FLOAT, 1);
            asFloat("-" + giant, FLOAT_SIGN | INFINITE_FLOAT, -1);
        }
    }

    private static void fieldOfDouble() {
        CHECK.sentence("then 11 bits, 0 if m is below 2 to the p - 1 in size, else k + 1075");
        asDouble("0x0.0000000000001p-1022", 1, 0);
        asDouble("0x0.fffffffffffffp-1022", LEAST_FULL - 1, 0);
        asDouble("0x0.fffffffffffff8p-1022", LEAST_FULL, 1);
        asDouble("0x0.fffffffffffff7ffffffffffffffp-1022", LEAST_FULL - 1, -1);
        asDouble("0x1p-1022", LEAST_FULL, 0);
        asDouble("0x1.0000000000001p-1022", LEAST_FULL + 1, 0);
        asDouble("0x1.fffffffffffffp-1022", 2 * LEAST_FULL - 1, 0);
        asDouble("0x1.fffffffffffff8p-1022", 2 * LEAST_FULL, 1);
        asDouble("0x1p-1021", 2 * LEAST_FULL, 0);
        asDouble("-0x1p-1022", SIGN | LEAST_FULL, 0);
        asDouble("-0x0.fffffffffffffp-1022", SIGN | LEAST_FULL - 1, 0);
        asDouble("2.2250738585072011e-308", LEAST_FULL - 1, -1);
        asDouble("2.2250738585072014e-308", LEAST_FULL, -1);
    }

    private static void fieldOfFloat() {
        CHECK.sentence("then (8) bits, 0 if m is below 2 to the p - 1 in size, else (k + 150)");
        asFloat("0x0.000002p-126", 1, 0);
        asFloat("0x0.fffffep-126", LEAST_FULL_FLOAT - 1, 0);
        asFloat("0x0.ffffffp-126", LEAST_FULL_FLOAT, 1);
        asFloat("0x0.fffffeffffffffffffffffp-126", LEAST_FULL_FLOAT - 1, -1);
        asFloat("0x1p-126", LEAST_FULL_FLOAT, 0);
        asFloat("0x1.000002p-126", LEAST_FULL_FLOAT + 1, 0);
        asFloat("0x1.fffffep-126", 2 * LEAST_FULL_FLOAT - 1, 0);
        asFloat("0x1.ffffffp-126", 2 * LEAST_FULL_FLOAT, 1);
        asFloat("0x1p-125", 2 * LEAST_FULL_FLOAT, 0);
        asFloat("-0x1p-126", FLOAT_SIGN | LEAST_FULL_FLOAT, 0);
        asFloat("-0x0.fffffep-126", FLOAT_SIGN | LEAST_FULL_FLOAT - 1, 0);
    }

    private static void bitsOfInfinity() {
        CHECK.sentence("Infinity has 2047 (255) there and nothing behind it");
        for (String text : new String[] {"Infinity", "+Infinity", "1e309", "0x1p1024"}) {
            CHECK.same("bits of " + text, Check.reader(text).bits(), INFINITE);
            CHECK.same("floatBits of " + text, Check.reader(text).floatBits(), INFINITE_FLOAT);
        }
        CHECK.same("bits of -Infinity", Check.reader("-Infinity").bits(), SIGN | INFINITE);
        CHECK.same("floatBits of -Infinity", Check.reader("-Infinity").floatBits(), FLOAT_SIGN | INFINITE_FLOAT);
        CHECK.same("floatBits of 1e39, no infinity as a double", Check.reader("1e39").floatBits(), INFINITE_FLOAT);
        CHECK.same("bits of 1e39", Check.reader("1e39").bits(), Double.doubleToRawLongBits(1e39));
    }

    private static void bitsOfNaN() {
        CHECK.sentence("what is read for NaN, with any sign, .. a 1 and zeros, with the sign bit 0");
        for (String text : new String[] {"NaN", "+NaN", "-NaN", " -NaN "}) {
            CHECK.same("bits of " + text, Check.reader(text).bits(), NO_NUMBER);
            CHECK.same("floatBits of " + text, Check.reader(text).floatBits(), NO_NUMBER_FLOAT);
        }
    }

    private static void namedFirst() {
        CHECK.sentence("the one named first when several would do");
        for (String text : NO_NUMBER_TEXTS) {
            for (long bits : new long[] {INFINITE + 1, NO_NUMBER, Long.MAX_VALUE, SIGN | NO_NUMBER, -1}) {
                CHECK.fails("compare of '" + shown(text) + "' to NaN", () -> Check.reader(text).compare(bits), Check.ISE);
            }
        }
    }

    private static void noNumberText() {
        CHECK.sentence("IllegalStateException: the text is no number text.");
        for (String text : NO_NUMBER_TEXTS) {
            ExactReader x = Check.reader(text);
            CHECK.fails("bits of '" + shown(text) + "'", x::bits, Check.ISE);
            CHECK.fails("floatBits of '" + shown(text) + "'", x::floatBits, Check.ISE);
            CHECK.fails("side(false) of '" + shown(text) + "'", () -> x.side(false), Check.ISE);
            CHECK.fails("side(true) of '" + shown(text) + "'", () -> x.side(true), Check.ISE);
            CHECK.fails("compare(0) of '" + shown(text) + "'", () -> x.compare(0), Check.ISE);
            CHECK.fails("compare(Infinity) of '" + shown(text) + "'", () -> x.compare(INFINITE), Check.ISE);
        }
    }

    private static void sideBelowAtAbove() {
        CHECK.sentence("-1 below it, 0 it is that, 1 above it");
        asDouble("0x1.00000000000001p0", ONE, -1);
        asDouble("0x1.0000000000000fp0", ONE + 1, 1);
        asDouble("0x1.0000000000001p0", ONE + 1, 0);
        asDouble("-0x1.00000000000001p0", SIGN | ONE, 1);
        asDouble("-0x1.0000000000000fp0", SIGN | ONE + 1, -1);
        asDouble("-0x1.0000000000001p0", SIGN | ONE + 1, 0);
        asFloat("0x1.0000001p0", FLOAT_ONE, -1);
        asFloat("0x1.000001fp0", FLOAT_ONE + 1, 1);
        asFloat("0x1.000002p0", FLOAT_ONE + 1, 0);
        asFloat("-0x1.0000001p0", FLOAT_SIGN | FLOAT_ONE, 1);
        asFloat("-0x1.000001fp0", FLOAT_SIGN | FLOAT_ONE + 1, -1);
        // as the one below it, as the other it is that
        asDouble("16777217", 0x4170000010000000L, 0);
        asFloat("16777217", 0x4B800000, -1);
        // as the one below it, as the other above it
        asDouble("0.3", 0x3FD3333333333333L, -1);
        asFloat("0.3", 0x3E99999A, 1);
    }

    private static void sideOfInfinityAndNaN() {
        CHECK.sentence("for infinity and NaN in the text 0");
        for (String text : new String[] {"Infinity", "+Infinity", "-Infinity", "NaN", "+NaN", "-NaN"}) {
            CHECK.same("side(false) of " + text, Check.reader(text).side(false), 0);
            CHECK.same("side(true) of " + text, Check.reader(text).side(true), 0);
        }
    }

    private static void sideOfAnInfinityRead() {
        CHECK.sentence("an infinity that is read for a number lies above all, or below all");
        for (String text : new String[] {"1e309", "1e999999999999", "0x1p1024", "0x1.fffffffffffff8p1023", "9" + ZEROS}) {
            CHECK.same("side(false) of " + shown(text), Check.reader(text).side(false), 1);
            CHECK.same("side(true) of " + shown(text), Check.reader(text).side(true), 1);
            CHECK.same("side(false) of -" + shown(text), Check.reader("-" + text).side(false), -1);
            CHECK.same("side(true) of -" + shown(text), Check.reader("-" + text).side(true), -1);
        }
        asFloat("0x1p128", INFINITE_FLOAT, 1);
        asFloat("-0x1p128", FLOAT_SIGN | INFINITE_FLOAT, -1);
    }

    private static void sideOfAZeroRead() {
        CHECK.sentence("How the number read lies to what the text says (a 0 read for another number)");
        for (String text : new String[] {"1e-324", "1e-400", "1e-999999999999", "0x1p-1075", "." + ZEROS + "1"}) {
            CHECK.same("side(false) of " + shown(text), Check.reader(text).side(false), -1);
            CHECK.same("side(true) of " + shown(text), Check.reader(text).side(true), -1);
            CHECK.same("side(false) of -" + shown(text), Check.reader("-" + text).side(false), 1);
            CHECK.same("side(true) of -" + shown(text), Check.reader("-" + text).side(true), 1);
        }
        asDouble("1e-323", 2, -1);
        asFloat("1e-323", 0, -1);
    }

    private static void compareBelowAtAbove() {
        CHECK.sentence("How what the text says lies to the number that has some bits as DOUBLE");
        long[] numbers = {
            1, 2, LEAST_FULL - 1, LEAST_FULL, LEAST_FULL + 1, ONE - 1, ONE, ONE + 1, 0x4340000000000000L, GREATEST - 1, GREATEST
        };
        for (long bits : numbers) {
            String text = Double.toHexString(Double.longBitsToDouble(bits));
            compares(text, bits, 0);
            compares(text, bits - 1, 1);
            compares(text, bits + 1, -1);
            compares("-" + text, SIGN | bits, 0);
            compares("-" + text, SIGN | bits - 1, -1);
            compares("-" + text, SIGN | bits + 1, 1);
            compares(text, SIGN | bits, 1);
            compares("-" + text, bits, -1);
            String decimal = new BigDecimal(Double.longBitsToDouble(bits)).toString();
            compares(decimal, bits, 0);
            compares(decimal.replaceFirst("(E|$)", (decimal.contains(".") ? "" : ".") + "000001$1"), bits, 1);
        }
        compares("0x1p-1075", 0, 1);
        compares("0x1p-1075", 1, -1);
        compares("0x1p-5000", 0, 1);
        compares("0x1p-5000", 1, -1);
        compares("-0x1p-5000", 0, -1);
        compares("-0x1p-5000", SIGN | 1, 1);
        compares("0x1p1024", GREATEST, 1);
        compares("-0x1p1024", SIGN | GREATEST, -1);
    }

    private static void compareZeros() {
        CHECK.sentence("(0 and -0 are the same number");
        for (String zero : new String[] {"0", "+0", "-0", "0e9", "-0x0p9", ".0", "-" + ZEROS}) {
            compares(zero, 0, 0);
            compares(zero, SIGN, 0);
            compares(zero, 1, -1);
            compares(zero, SIGN | 1, 1);
        }
        for (String tiny : new String[] {"1e-400", "1e-99999999999", "0x1p-99999999999", "." + ZEROS + "1"}) {
            compares(tiny, 0, 1);
            compares(tiny, SIGN, 1);
            compares("-" + tiny, 0, -1);
            compares("-" + tiny, SIGN, -1);
        }
    }

    private static void compareInfinities() {
        CHECK.sentence("infinities lie above and below all others");
        for (String text : new String[] {"0", "1", "1e309", "1e99999999999", "0x1p1024", "0x1p99999999999", "9" + ZEROS, "1e" + NINES}) {
            compares(text, INFINITE, -1);
            compares(text, SIGN | INFINITE, 1);
            compares("-" + text, INFINITE, -1);
            compares("-" + text, SIGN | INFINITE, 1);
        }
        for (long bits : new long[] {0, SIGN, 1, ONE, GREATEST, SIGN | 1, SIGN | GREATEST}) {
            compares("Infinity", bits, 1);
            compares("-Infinity", bits, -1);
        }
    }

    private static void compareInfinityInTheText() {
        CHECK.sentence("Infinity in the text is the same as that.)");
        compares("Infinity", INFINITE, 0);
        compares("+Infinity", INFINITE, 0);
        compares("-Infinity", SIGN | INFINITE, 0);
        compares("Infinity", SIGN | INFINITE, 1);
        compares("-Infinity", INFINITE, -1);
    }

    private static void compareNotWithTheNumberRead() {
        CHECK.sentence("How what the text says lies (not the number read for it)");
        compares("0.1", 0x3FB999999999999AL, -1);
        compares("0.1", 0x3FB9999999999999L, 1);
        compares("-0.1", 0xBFB999999999999AL, 1);
        compares("-0.1", 0xBFB9999999999999L, -1);
        compares("1e-400", 0, 1);
        compares("1e400", INFINITE, -1);
        compares("1e400", GREATEST, 1);
        compares("0x1.00000000000008p0", ONE, 1);
        compares("0x1.00000000000008p0", ONE + 1, -1);
    }

    private static void compareRefusesNaN() {
        CHECK.sentence("IllegalArgumentException: the text is NaN");
        for (String text : new String[] {"NaN", "+NaN", "-NaN", " NaN "}) {
            for (long bits : new long[] {0, SIGN, 1, ONE, GREATEST, INFINITE, SIGN | INFINITE, INFINITE + 1, NO_NUMBER, -1}) {
                CHECK.fails(text + " to " + Long.toHexString(bits), () -> Check.reader(text).compare(bits), Check.IAE);
            }
        }
    }

    private static void compareRefusesBits() {
        CHECK.sentence("IllegalArgumentException: the bits have 2047 in their place and something behind it");
        for (String text : new String[] {"0", "1", "-1e400", "0x1p0", "Infinity", "-Infinity"}) {
            for (long behind : new long[] {1, 2, 1L << 31, 1L << 32, 1L << 51, (1L << 52) - 1}) {
                CHECK.fails(text + " to 2047 and " + behind, () -> Check.reader(text).compare(INFINITE | behind), Check.IAE);
                CHECK.fails(text + " to -, 2047 and " + behind, () -> Check.reader(text).compare(SIGN | INFINITE | behind), Check.IAE);
            }
            for (long bits : new long[] {INFINITE, SIGN | INFINITE, GREATEST, SIGN | GREATEST, 0, SIGN, (1L << 52) - 1}) {
                CHECK.fails(text + " to " + Long.toHexString(bits), () -> Check.reader(text).compare(bits), 0);
            }
        }
    }
}
