import java.util.Random;

/** Promises 6 and 7: kind and fault. */
public final class GrammarTest {
    private static final Check CHECK = new Check();
    private static final String ALPHABET = "0123459.+-eEpPxXdDfFaAcNaInfity \t\u0001!g\u00a0\u00ff";
    /** One of these completes whatever can still become a number text. */
    private static final String[] COMPLETIONS = {
        "", "0", "1p0", "p0", "aN", "N", "nfinity", "finity", "inity", "nity", "ity", "ty", "y"
    };

    public static void main(String[] args) {
        decimals();
        hexadecimals();
        words();
        blanks();
        wrongTexts();
        everyCharacter();
        fullTexts();
        shortTexts();
        randomTexts();
        CHECK.end();
    }

    private static void is(String text, int kind, int fault) {
        ExactReader x = Check.reader(text);
        CHECK.same("kind of '" + text + "'", x.kind(), kind);
        CHECK.same("fault of '" + text + "'", x.fault(), fault);
        CHECK.fails("bits of '" + text + "'", x::bits, kind == -1 ? Check.ISE : 0);
        CHECK.fails("floatBits of '" + text + "'", x::floatBits, kind == -1 ? Check.ISE : 0);
        CHECK.fails("side of '" + text + "'", () -> x.side(false), kind == -1 ? Check.ISE : 0);
        CHECK.fails("compare of '" + text + "'", () -> x.compare(0), kind == -1 ? Check.ISE : kind == 3 ? Check.IAE : 0);
    }

    private static void decimals() {
        String[] texts = {
            "0", "00", "1", "-1", "+1", "12.", ".5", "1.5", "-.5", "+5.", "1e5", "1E5", "1e+5", "1e-5", "1.e5", ".1E-05",
            "1f", "1F", "1d", "1D", "1.f", ".1d", "1e5f", "1E-5D", "00012.3400", "1e00000000000000000000000000000001",
            "1e99999999999999999999999", "0e-99999999999999999999999", "09", "0e0", "0.0", "-0", "0d", "0f"
        };
        for (String text : texts) {
            is(text, 0, -1);
        }
    }

    private static void hexadecimals() {
        String[] texts = {
            "0x1p0", "0X1P0", "-0x1p0", "+0X1p+0", "0x1p-0", "0x.8p1", "0x8.p1", "0x8.8p1", "0x0123456789abcdefABCDEFp1",
            "0x1p0f", "0x1p0F", "0x1p0d", "0x1p0D", "0xep1", "0xfp1", "0xdp1", "0x1p99999999999999999999", "0x0p0", "0x00.0p00"
        };
        for (String text : texts) {
            is(text, 1, -1);
        }
    }

    private static void words() {
        is("Infinity", 2, -1);
        is("-Infinity", 2, -1);
        is("+Infinity", 2, -1);
        is("NaN", 3, -1);
        is("-NaN", 3, -1);
        is("+NaN", 3, -1);
        for (int i = 0; i < "Infinity".length(); i++) {
            is("-" + "Infinity".substring(0, i), -1, i + 1);
            is("Infinity".substring(0, i) + "#", -1, i);
        }
        is("Na", -1, 2);
        is("N", -1, 1);
        is("NAN", -1, 1);
        is("INFINITY", -1, 1);
        is("infinity", -1, 0);
        is("Inf", -1, 3);
        is("NaNf", -1, 3);
        is("Infinityd", -1, 8);
        is("NaNN", -1, 3);
        is("Infinity1", -1, 8);
        is("1NaN", -1, 1);
        is("+-NaN", -1, 1);
    }

    private static void blanks() {
        is(" 1", 0, -1);
        is("1 ", 0, -1);
        is("\u0001\t\n\u001f -1.5e3d\u0020\u0001\r", 0, -1);
        is("  0x1p3 ", 1, -1);
        is(" Infinity ", 2, -1);
        is("\tNaN\n", 3, -1);
        is(" ", -1, 1);
        is("    ", -1, 4);
        is("1 2", -1, 2);
        is("1  .", -1, 3);
        is("  1   x", -1, 6);
        is("- 1", -1, 1);
        is("1 e5", -1, 2);
        is("1e 5", -1, 2);
        is("1e+ 5", -1, 3);
        is(". 5", -1, 1);
        is("0x 1p0", -1, 2);
        is("0x1 p0", -1, 3);
        is("0x1p 0", -1, 4);
        is("1 f", -1, 2);
        is("Na N", -1, 2);
        is("!1", -1, 0);
        is("1!", -1, 1);
        is("\u00a01", -1, 0);
        is("1\u0080", -1, 1);
    }

    private static void wrongTexts() {
        is("", -1, 0);
        is("+", -1, 1);
        is("-", -1, 1);
        is(" +", -1, 2);
        is(".", -1, 1);
        is("-.", -1, 2);
        is(".e5", -1, 1);
        is(".f", -1, 1);
        is("..", -1, 1);
        is("1.2.3", -1, 3);
        is("1..", -1, 2);
        is("e5", -1, 0);
        is("f", -1, 0);
        is("x1", -1, 0);
        is("1e", -1, 2);
        is("1e-", -1, 3);
        is("1e+", -1, 3);
        is("1e--5", -1, 3);
        is("1e5.", -1, 3);
        is("1e5e5", -1, 3);
        is("1e.5", -1, 2);
        is("1ef", -1, 2);
        is("1ff", -1, 2);
        is("1df", -1, 2);
        is("1f5", -1, 2);
        is("1d.5", -1, 2);
        is("1-", -1, 1);
        is("1p5", -1, 1);
        is("1a", -1, 1);
        is("--1", -1, 1);
        is("1,5", -1, 1);
        is("1_000", -1, 1);
        is("00x1p0", -1, 2);
        is("1x1p0", -1, 1);
        is("0x", -1, 2);
        is("0xp", -1, 2);
        is("0x.", -1, 3);
        is("0x.p1", -1, 3);
        is("0x1", -1, 3);
        is("0x1f", -1, 4);
        is("0x1.8", -1, 5);
        is("0x1.8.", -1, 5);
        is("0x1e+5", -1, 4);
        is("0x1p", -1, 4);
        is("0x1p+", -1, 5);
        is("0x1p-x", -1, 5);
        is("0x1pa", -1, 4);
        is("0x1p1a", -1, 5);
        is("0x1p1.", -1, 5);
        is("0x1p1ff", -1, 6);
        is("0x1g", -1, 3);
        is("0xx1p0", -1, 2);
        is("0x-1p0", -1, 2);
        is("0xNaN", -1, 2);
    }

    /** What each character can be at the beginning, behind a digit, among hexadecimal digits, and behind a text. */
    private static void everyCharacter() {
        for (char c = 1; c <= 255; c++) {
            for (String before : new String[] {"", "-", "1", "1.", "1e", "1e2", "1f", "0x1", "0x1p1", "NaN", "1 "}) {
                againstOracle(before + c);
            }
        }
    }

    private static void fullTexts() {
        full(' ', 4096, "", 4096, -1);
        full('0', 4096, "", -1, 0);
        full('.', 4096, "", 1, -1);
        full(' ', 4095, "1", -1, 0);
        full(' ', 4095, "-", 4096, -1);
        full(' ', 4088, "Infinity", -1, 2);
        full(' ', 4093, "NaN", -1, 3);
        full('1', 4094, "e1", -1, 0);
        full('1', 4095, "e", 4096, -1);
        full('1', 4095, "x", 4095, -1);
    }

    private static void full(char c, int n, String behind, int fault, int kind) {
        ExactReader x = new ExactReader();
        x.repeat(c, n);
        Check.put(x, behind);
        CHECK.same(n + " times '" + c + "' and '" + behind + "': fault()", x.fault(), fault);
        CHECK.same(n + " times '" + c + "' and '" + behind + "': kind()", x.kind(), kind);
    }

    private static void shortTexts() {
        String few = "0.1-eEpxdF NIa";
        for (int number = 0; number < few.length() * few.length() * few.length() * few.length(); number++) {
            StringBuilder text = new StringBuilder();
            for (int left = number; left > 0; left /= few.length()) {
                text.append(few.charAt(left % few.length()));
            }
            againstOracle(text.toString());
            againstOracle("0x" + text);
        }
    }

    private static void randomTexts() {
        Random random = new Random(7);
        String[] seeds = {" -12.5e-3f ", "0x1.8p-3d ", "+Infinity ", "-NaN  ", "  .5E+10D", "0X.FfP09F"};
        for (int i = 0; i < 60000; i++) {
            StringBuilder text = new StringBuilder(seeds[random.nextInt(seeds.length)]);
            for (int changes = random.nextInt(4); changes > 0; changes--) {
                int place = random.nextInt(text.length());
                char c = ALPHABET.charAt(random.nextInt(ALPHABET.length()));
                switch (random.nextInt(3)) {
                    case 0 -> text.setCharAt(place, c);
                    case 1 -> text.insert(place, c);
                    default -> text.setLength(Math.max(place, 1));
                }
            }
            againstOracle(text.toString());
        }
    }

    private static void againstOracle(String text) {
        ExactReader x = Check.reader(text);
        CHECK.same("fault of '" + text + "'", x.fault(), faultDue(text));
        CHECK.same("kind of '" + text + "'", x.kind(), kindDue(text));
    }

    private static int kindDue(String text) {
        if (!isNumberText(text)) {
            return -1;
        }
        return text.indexOf('N') >= 0 ? 3 : text.indexOf('I') >= 0 ? 2 : text.indexOf('x') + text.indexOf('X') > -2 ? 1 : 0;
    }

    private static int faultDue(String text) {
        if (isNumberText(text)) {
            return -1;
        }
        for (int n = 1; n <= text.length(); n++) {
            if (!canBecomeNumberText(text.substring(0, n))) {
                return n - 1;
            }
        }
        return text.length();
    }

    private static boolean canBecomeNumberText(String text) {
        for (String completion : COMPLETIONS) {
            if (isNumberText(text + completion)) {
                return true;
            }
        }
        return false;
    }

    /** The library's texts of doubles are just the document's number texts. */
    private static boolean isNumberText(String text) {
        try {
            Double.parseDouble(text);
            return true;
        } catch (NumberFormatException e) {
            return false;
        }
    }
}
