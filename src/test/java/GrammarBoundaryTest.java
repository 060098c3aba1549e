/** The boundary cases of promises 6 and 7, and of what the terms say of number texts: a method for each sentence. */
public final class GrammarBoundaryTest {
    private static final int NONE = -1;
    private static final int DECIMAL = 0;
    private static final int HEXADECIMAL = 1;
    private static final int INFINITY = 2;
    private static final int NOT_A_NUMBER = 3;
    private static final Check CHECK = new Check();

    public static void main(String[] args) {
        charactersNotAbove32();
        onlyAtItsBeginningAndItsEnd();
        perhapsASign();
        noNumberOrInfinity();
        point();
        oneDigitAtLeast();
        decimalExponent();
        suffix();
        hexadecimalBeginning();
        hexadecimalDigits();
        hexadecimalPoint();
        hexadecimalExponent();
        hexadecimalSuffix();
        kinds();
        kindNone();
        faultNone();
        faultAtTheFirstThatCannotStandThere();
        faultWhateverFollows();
        faultAtTheEnd();
        faultInFullTexts();
        CHECK.end();
    }

    private static void is(int kind, String... texts) {
        for (String text : texts) {
            ExactReader x = Check.reader(text);
            CHECK.same("kind of '" + text + "'", x.kind(), kind);
            CHECK.same("fault of '" + text + "'", x.fault(), NONE);
            CHECK.fails("bits of '" + text + "'", x::bits, 0);
        }
    }

    private static void isWrongAt(int place, String... texts) {
        for (String text : texts) {
            ExactReader x = Check.reader(text);
            CHECK.same("kind of '" + text + "'", x.kind(), NONE);
            CHECK.same("fault of '" + text + "'", x.fault(), place);
            CHECK.fails("bits of '" + text + "'", x::bits, Check.ISE);
        }
    }

    private static void charactersNotAbove32() {
        CHECK.sentence("the characters not above 32");
        for (char c = 1; c <= 32; c++) {
            is(DECIMAL, c + "1", "1" + c, c + "1" + c, "" + c + c + "1" + c + c);
            is(HEXADECIMAL, c + "0x1p0" + c);
            is(INFINITY, c + "-Infinity" + c);
            is(NOT_A_NUMBER, c + "NaN" + c);
        }
        for (char c : new char[] {33, 34, 127, 128, 133, 159, 160, 173, 255}) {
            isWrongAt(0, c + "1");
            isWrongAt(1, "1" + c, " " + c, "-" + c);
            isWrongAt(3, "NaN" + c, "1  " + c);
        }
    }

    private static void onlyAtItsBeginningAndItsEnd() {
        CHECK.sentence("at its beginning and its end");
        for (char c : new char[] {1, 9, 32}) {
            isWrongAt(1, "-" + c + "1", "." + c + "1", "+" + c + "NaN", "N" + c + "aN");
            isWrongAt(2, "1" + c + "1", "1" + c + ".", "1" + c + "e1", "1" + c + "f", "1e" + c + "1", "0x" + c + "1p0");
            isWrongAt(2, "0" + c + "x1p0");
            isWrongAt(3, "1e+" + c + "1", "0x1" + c + "p0", "Inf" + c + "inity");
            isWrongAt(4, "0x1p" + c + "0", "NaN" + c + "N");
        }
    }

    private static void perhapsASign() {
        CHECK.sentence("perhaps a sign, + or -");
        is(DECIMAL, "1", "+1", "-1", " +1", " -1", "+.1", "-1.");
        is(HEXADECIMAL, "0x1p0", "+0x1p0", "-0x1p0");
        is(INFINITY, "Infinity", "+Infinity", "-Infinity");
        is(NOT_A_NUMBER, "NaN", "+NaN", "-NaN");
        isWrongAt(1, "++1", "--1", "+-1", "-+1", "1+", "1-", "-*", "+,");
        isWrongAt(0, "*1", ",1", "/1");
        isWrongAt(2, "0x+1p0", "0x-1p0", " ++");
    }

    private static void noNumberOrInfinity() {
        CHECK.sentence("NaN, or Infinity;");
        is(NOT_A_NUMBER, "NaN");
        is(INFINITY, "Infinity");
        for (String word : new String[] {"NaN", "Infinity"}) {
            for (int i = 0; i < word.length(); i++) {
                String before = word.substring(0, i);
                char other = (char) (word.charAt(i) ^ 32);
                isWrongAt(i, before, before + other + word.substring(i + 1));
                isWrongAt(i + 1, "-" + before, "+" + before + other);
            }
            for (char c : new char[] {'d', 'D', 'f', 'F', 'e', '.', '0', 'N', 'y', 'p'}) {
                isWrongAt(word.length(), word + c);
            }
        }
        isWrongAt(1, "1NaN", "0Infinity");
        isWrongAt(2, "0xNaN", "0xInfinity");
    }

    private static void point() {
        CHECK.sentence("DIGITS, perhaps with a point before, between or behind them");
        is(DECIMAL, "0", "9", "10", ".0", ".9", "0.", "9.", "0.0", "9.9", "12.34", ".5e1", "5.e1", "5.f", ".5d");
        isWrongAt(1, "..", "..1", ".-", "1,5", "1/", "1:");
        isWrongAt(2, "1..", ".1.", "1..1");
        isWrongAt(3, "1.1.", "1.1.1");
        isWrongAt(0, "/", ":", ",5");
    }

    private static void oneDigitAtLeast() {
        CHECK.sentence("(one digit at least)");
        isWrongAt(1, ".", ".e1", ".E1", ".f", ".d", ". ", "+", "-f", "+e1");
        isWrongAt(2, "-.", "+.e1", "-.f");
        isWrongAt(0, "e1", "E1", "f", "d", "D", "F", "a", "p0", "x1p0");
        isWrongAt(3, "0x.", "0x.p0", "0x.P0", "0x.g", "0x. ");
        isWrongAt(2, "0x", "0xp0", "0Xp0", "0x ");
    }

    private static void decimalExponent() {
        CHECK.sentence("perhaps an EXPONENT, e or E, perhaps a sign, and one or more digits");
        is(DECIMAL, "1e0", "1E0", "1e+0", "1e-0", "1E+9", "1E-9", "1e00", "1e123456789012345678901234567890", ".1e1", "1.e1");
        isWrongAt(2, "1e", "1E", "1ee1", "1e.", "1ef", "1ed", "1ex", "1e ", "1ea");
        isWrongAt(3, "1e+", "1e-", "1e+-1", "1e--1", "1e+f", "1e-.", "1e+ ", "1e+e");
        isWrongAt(3, "1e1.", "1e1e1", "1e1-", "1e1x", "1e1p1", "1e1a", "1e1/", "1e1:");
        isWrongAt(1, "1p1", "1P1", "1x1");
    }

    private static void suffix() {
        CHECK.sentence("perhaps a SUFFIX, one of d D f F");
        for (String suffix : new String[] {"d", "D", "f", "F"}) {
            is(DECIMAL, "1" + suffix, "1." + suffix, ".1" + suffix, "1e1" + suffix, "0" + suffix, "-1e-1" + suffix + " ");
            isWrongAt(2, "1" + suffix + "d", "1" + suffix + "F", "1" + suffix + "1", "1" + suffix + ".", "1" + suffix + "e1");
        }
        isWrongAt(1, "1c", "1g", "1C", "1G", "1l", "1L");
        isWrongAt(3, "1e1e", "1e1g");
        isWrongAt(2, "1 f", "1 d");
    }

    private static void hexadecimalBeginning() {
        CHECK.sentence("a HEXADECIMAL: 0x or 0X");
        is(HEXADECIMAL, "0x1p0", "0X1p0", "-0x1p0", " 0X1p0");
        isWrongAt(0, "x1p0", "X1p0");
        isWrongAt(1, "1x1p0", "9X1p0", "0y1p0", "0w1p0", ".x1p0");
        isWrongAt(2, "00x1p0", "0xx1p0", "0xX1p0", "0.x1p0", "-1x1p0");
        is(DECIMAL, "0", "00", "0.", "0e0", "0d", "0F");
    }

    private static void hexadecimalDigits() {
        CHECK.sentence("hexadecimal digits 0 .. 9, a .. f, A .. F");
        for (char c = 33; c <= 255; c++) {
            boolean isDigit = c >= '0' && c <= '9' || c >= 'a' && c <= 'f' || c >= 'A' && c <= 'F';
            if (isDigit) {
                is(HEXADECIMAL, "0x" + c + "p0", "0x1" + c + "p0", "0x." + c + "p0", "0x1." + c + "p0");
            } else if (c != '.') {
                isWrongAt(2, "0x" + c + "p0");
                isWrongAt(3, "0x." + c + "p0");
            }
        }
        isWrongAt(3, "0x1/", "0x1:", "0x1@", "0x1G", "0x1`", "0x1g", "0x1+", "0x1-");
    }

    private static void hexadecimalPoint() {
        CHECK.sentence("perhaps with a point before, between or behind them (hexadecimal)");
        is(HEXADECIMAL, "0x1p0", "0x.1p0", "0x1.p0", "0x1.1p0", "0xf.fp0", "0x.fp0", "0xf.p0");
        isWrongAt(3, "0x..", "0x..1p0");
        isWrongAt(4, "0x1..p0", "0x.1.p0");
        isWrongAt(5, "0x1.1.p0");
    }

    private static void hexadecimalExponent() {
        CHECK.sentence("and p or P, perhaps a sign, and one or more digits 0 .. 9");
        is(HEXADECIMAL, "0x1p0", "0x1P9", "0x1p+0", "0x1p-9", "0x1p00", "0x1P+123456789012345678901234567890");
        isWrongAt(3, "0x1", "0x1 ", "0xf", "0xd ", "0xe", "0xe+1", "0xe-1");
        isWrongAt(4, "0x1.", "0x1. ", "0x1f ", "0x1e", "0x1e+1");
        isWrongAt(4, "0x1p", "0x1P", "0x1p ", "0x1pp", "0x1pa", "0x1pf", "0x1pF", "0x1p.", "0x1p/", "0x1p:");
        isWrongAt(5, "0x1p+", "0x1p-", "0x1p+-1", "0x1p--1", "0x1p+a", "0x1p-f", "0x1p+ ");
        isWrongAt(5, "0x1p1a", "0x1p1e", "0x1p1.", "0x1p1p", "0x1p1c", "0x1p1E1", "0x1p1-");
    }

    private static void hexadecimalSuffix() {
        CHECK.sentence("perhaps a suffix. (hexadecimal)");
        for (String suffix : new String[] {"d", "D", "f", "F"}) {
            is(HEXADECIMAL, "0x1p0" + suffix, "0xfp-1" + suffix, "0x1.p+1" + suffix + " ");
            isWrongAt(6, "0x1p0" + suffix + "d", "0x1p0" + suffix + "1", "0x1p0" + suffix + "F", "0x1p0" + suffix + ".");
            isWrongAt(4, "0x1" + suffix);
        }
        isWrongAt(5, "0x1p0g", "0x1p0c", "0x1p0C", "0x1p0e");
    }

    private static void kinds() {
        CHECK.sentence("What the text is: 0 a decimal, 1 a hexadecimal, 2 infinity, 3 NaN");
        is(0, "0", "-0", "1e999999", "1e-999999", "9".repeat(4096), "." + "0".repeat(4095));
        is(1, "0x0p0", "-0x0p0", "0x1p999999", "0x1p-999999", "0x" + "f".repeat(4092) + "p0");
        is(2, "Infinity", "-Infinity", " ".repeat(4000) + "Infinity" + " ".repeat(88));
        is(3, "NaN", "-NaN", " ".repeat(2000) + "+NaN" + " ".repeat(2092));
    }

    private static void kindNone() {
        CHECK.sentence("NONE when it is no number text.");
        for (String text : new String[] {"", " ", "-", ".", "1x", "0x1", "1e", "nan", "Inf", "1 1", " ".repeat(4096)}) {
            CHECK.same("kind of '" + text + "'", Check.reader(text).kind(), NONE);
        }
    }

    private static void faultNone() {
        CHECK.sentence("NONE when the text is a number text");
        for (String text : new String[] {"0", "-.0e-0f ", "0x.0p0", " +Infinity", "NaN", "0".repeat(4096)}) {
            CHECK.same("fault of '" + text + "'", Check.reader(text).fault(), NONE);
        }
    }

    private static void faultAtTheFirstThatCannotStandThere() {
        CHECK.sentence("otherwise the place of the first character that cannot stand there");
        isWrongAt(0, "x", "xx", "\u00ff", "!1!");
        isWrongAt(1, "1x", "1xx", "-x", " x", "NAN", "IN", ".x.");
        isWrongAt(2, "1 x", "1 1x", "  x 1", "1fx!");
        isWrongAt(6, "1.5e+3x", "0x1p+1x", " -1.5fx", "  1   1");
        for (int n : new int[] {8, 255, 256, 4000}) {
            isWrongAt(n, "1".repeat(n) + "x1", " ".repeat(n) + "x", "1" + " ".repeat(n - 1) + "1");
            isWrongAt(n, "1e" + "1".repeat(n - 2) + "e", "0x" + "1".repeat(n - 2) + "g", "0x1p" + "1".repeat(n - 4) + ".");
        }
    }

    private static void faultWhateverFollows() {
        CHECK.sentence("cannot stand there, whatever follows");
        for (String behind : new String[] {"", "1", ".", "e1", "p0", " ", "NaN", "Infinity", "f", "\u00ff"}) {
            isWrongAt(1, "1x" + behind, "-!" + behind, ".." + behind, "N " + behind);
            isWrongAt(2, "1e." + behind, "1 2" + behind, "0xg" + behind, "1ff" + behind);
        }
        CHECK.same("what only a character behind it makes wrong", Check.reader("0x1").fault(), 3);
        is(HEXADECIMAL, "0x1p0");
    }

    private static void faultAtTheEnd() {
        CHECK.sentence("the number of characters if the text only ends too early");
        isWrongAt(0, "");
        isWrongAt(1, " ", "-", "+", ".", "N", "I");
        isWrongAt(2, "  ", " -", "-.", "1e", "0x", "0X", "Na", "In", "+N");
        isWrongAt(3, "1e+", "1e-", "0x1", "0x.", "0xf", "Inf", "-Na", "-0x", " 1E");
        isWrongAt(4, "0x1p", "0x1P", "0x1.", "0x.1", "1.5e", "Infi");
        isWrongAt(5, "0x1p+", "0x1p-", "1.5e-", "Infin");
    }

    private static void faultInFullTexts() {
        CHECK.sentence("the place of the first character, the number of characters (in a full text)");
        isWrongAt(4095, "1".repeat(4095) + "x", " ".repeat(4095) + "x", "0".repeat(4095) + "X", "1" + " ".repeat(4094) + "1");
        isWrongAt(4096, " ".repeat(4096), " ".repeat(4095) + "-", "1".repeat(4095) + "e", "0x" + "1".repeat(4094));
        isWrongAt(4096, " ".repeat(4089) + "Infinit", " ".repeat(4094) + "Na", " ".repeat(4094) + "0x");
        is(DECIMAL, "1".repeat(4095) + "f", "1e" + "1".repeat(4094), " ".repeat(4095) + "1", "1" + " ".repeat(4095));
        is(HEXADECIMAL, "0x" + "1".repeat(4092) + "p1", "0x1p" + "1".repeat(4092));
        is(INFINITY, " ".repeat(4088) + "Infinity");
        is(NOT_A_NUMBER, "NaN" + " ".repeat(4093));
        isWrongAt(0, "x" + "1".repeat(4095));
    }
}
