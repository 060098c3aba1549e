/** The boundary cases of promises 1 to 5, and of what the terms say of the text: a method for each sentence. */
public final class TextBoundaryTest {
    private static final int NONE = -1;
    private static final int MOST = Integer.MAX_VALUE;
    private static final int LEAST = Integer.MIN_VALUE;
    private static final Check CHECK = new Check();

    public static void main(String[] args) {
        atMost512Calls();
        upTo4096Characters();
        characters1To255();
        anEmptyText();
        writeLowestFirst();
        writeLeavesZerosOut();
        writeBehindTheText();
        writeNone();
        repeatNTimes();
        repeatNone();
        repeatNoneForWrappingSums();
        repeatRefusesCharacters();
        repeatRefusesCounts();
        repeatThrowsBeforeItAnswersNone();
        cutTheLast();
        cutAll();
        cutRefused();
        wipe();
        throwingCallsChangeNothing();
        noneChangesNothing();
        readingKeepsTheText();
        CHECK.end();
    }

    private static ExactReader filled(int c, int n) {
        ExactReader x = new ExactReader();
        x.repeat(c, n);
        return x;
    }

    /** Neither what the text says nor how long it is has changed. */
    private static void holds(ExactReader x, String when, double number, int length) {
        CHECK.same(when + ": bits()", x.bits(), Double.doubleToRawLongBits(number));
        CHECK.same(when + ": characters", x.write(0), length);
    }

    private static void atMost512Calls() {
        CHECK.sentence("An object is used for at most 512 calls after it has been made");
        ExactReader x = new ExactReader();
        for (int i = 1; i <= 508; i++) {
            CHECK.same("call " + i, x.write(Check.packed("00000001")), 8 * i);
        }
        CHECK.same("call 509", x.fault(), -1);
        CHECK.same("call 510", x.side(true), 1);
        CHECK.same("call 511", x.wipe(), 8 * 508);
        CHECK.same("call 512", x.write('7'), 1);
    }

    private static void upTo4096Characters() {
        CHECK.sentence("THE TEXT is a row of up to 4096 characters");
        CHECK.same("repeat(49, 4095)", new ExactReader().repeat('1', 4095), 4095);
        CHECK.same("repeat(49, 4096)", new ExactReader().repeat('1', 4096), 4096);
        CHECK.same("repeat(49, 4097)", new ExactReader().repeat('1', 4097), NONE);
        ExactReader x = filled(' ', 4095);
        CHECK.same("the 4096th", x.write('7'), 4096);
        holds(x, "the 4096th counts", 7, 4096);
        CHECK.same("the 4097th", x.write('7'), NONE);
        CHECK.same("one goes", x.cut(1), 4095);
        CHECK.same("and another comes", x.write('8'), 4096);
        holds(x, "the new 4096th counts", 8, 4096);
    }

    private static void characters1To255() {
        CHECK.sentence("characters, 1 .. 255");
        for (int c = 1; c <= 255; c++) {
            ExactReader written = new ExactReader();
            CHECK.same("write(" + c + ")", written.write(c), 1);
            CHECK.same("write as the highest byte " + c, written.write((long) c << 56), 2);
            ExactReader repeated = new ExactReader();
            CHECK.same("repeat(" + c + ", 2)", repeated.repeat(c, 2), 2);
            CHECK.same("fault() with two of " + c, written.fault(), repeated.fault());
            CHECK.same("kind() with two of " + c, written.kind(), c >= '0' && c <= '9' ? 0 : NONE);
        }
    }

    private static void anEmptyText() {
        CHECK.sentence("An empty text.");
        CHECK.same("wipe()", new ExactReader().wipe(), 0);
        CHECK.same("cut(0)", new ExactReader().cut(0), 0);
        CHECK.same("cut(1)", new ExactReader().cut(1), 0);
        CHECK.same("write(0)", new ExactReader().write(0), 0);
        CHECK.same("repeat(49, 0)", new ExactReader().repeat('1', 0), 0);
        CHECK.same("kind()", new ExactReader().kind(), NONE);
        CHECK.same("fault()", new ExactReader().fault(), 0);
        CHECK.fails("bits()", () -> new ExactReader().bits(), Check.ISE);
        CHECK.fails("floatBits()", () -> new ExactReader().floatBits(), Check.ISE);
        CHECK.fails("side(false)", () -> new ExactReader().side(false), Check.ISE);
        CHECK.fails("side(true)", () -> new ExactReader().side(true), Check.ISE);
        CHECK.fails("compare(0)", () -> new ExactReader().compare(0), Check.ISE);
    }

    private static void writeLowestFirst() {
        CHECK.sentence("The characters in the eight bytes of a long, the lowest first");
        ExactReader x = new ExactReader();
        CHECK.same("eight bytes", x.write(0x3837_3635_3433_3231L), 8);
        holds(x, "eight bytes", 12345678, 8);
        x = new ExactReader();
        CHECK.same("the highest byte is above 127", x.write(0xFF00_0000_0000_0031L), 2);
        CHECK.same("the highest byte comes last", x.fault(), 1);
        CHECK.same("all bytes 255", new ExactReader().write(-1L), 8);
        CHECK.same("the least long", new ExactReader().write(Long.MIN_VALUE), 1);
        CHECK.same("the greatest long", new ExactReader().write(Long.MAX_VALUE), 8);
    }

    private static void writeLeavesZerosOut() {
        CHECK.sentence("bytes 0 left out");
        CHECK.same("all bytes 0", new ExactReader().write(0), 0);
        for (int present = 0; present < 256; present++) {
            long characters = 0;
            String text = "";
            for (int i = 0; i < 8; i++) {
                if ((present >> i & 1) == 1) {
                    characters |= (long) ('1' + i) << 8 * i;
                    text += (char) ('1' + i);
                }
            }
            ExactReader x = new ExactReader();
            CHECK.same("write(" + characters + ")", x.write(characters), text.length());
            CHECK.same("a 9 behind it", x.write('9'), text.length() + 1);
            holds(x, "write(" + characters + ") and 9", Double.parseDouble(text + "9"), text.length() + 1);
        }
    }

    private static void writeBehindTheText() {
        CHECK.sentence("come behind the text");
        ExactReader x = new ExactReader();
        CHECK.same("4", x.write('4'), 1);
        CHECK.same("2", x.write('2'), 2);
        holds(x, "42", 42, 2);
    }

    private static void writeNone() {
        CHECK.sentence("NONE, adding none, when there would be more than 4096 (write)");
        for (int n = 1; n <= 8; n++) {
            String digits = "12345678".substring(0, n);
            ExactReader fits = filled('0', 4096 - n);
            CHECK.same("just " + n + " fit", fits.write(Check.packed(digits)), 4096);
            holds(fits, "just " + n + " fit", Double.parseDouble(digits), 4096);
            ExactReader full = filled('0', 4097 - n);
            CHECK.same(n + " are one too many", full.write(Check.packed(digits)), NONE);
            holds(full, n + " are one too many", 0, 4097 - n);
            ExactReader spread = filled('0', 4096 - n);
            CHECK.same("bytes 0 do not count", spread.write(Check.packed(digits) << 8 * (8 - n)), 4096);
            holds(spread, "bytes 0 do not count", Double.parseDouble(digits), 4096);
        }
        ExactReader full = filled('0', 4096);
        CHECK.same("nothing fits into a full text", full.write(0), 4096);
        CHECK.same("one does not", full.write(1L << 56), NONE);
        CHECK.same("eight do not", full.write(-1), NONE);
        holds(full, "full", 0, 4096);
    }

    private static void repeatNTimes() {
        CHECK.sentence("A character comes behind the text n times.");
        ExactReader x = new ExactReader();
        CHECK.same("none", x.repeat('9', 0), 0);
        CHECK.same("one", x.repeat('1', 1), 1);
        CHECK.same("none again", x.repeat('9', 0), 1);
        CHECK.same("two", x.repeat('2', 2), 3);
        holds(x, "one and two", 122, 3);
        CHECK.same("all that fit", x.repeat(' ', 4093), 4096);
        holds(x, "full", 122, 4096);
        CHECK.same("none in a full text", x.repeat('9', 0), 4096);
    }

    private static void repeatNone() {
        CHECK.sentence("NONE, adding none, when there would be more than 4096 (repeat)");
        for (int n : new int[] {0, 1, 2, 2048, 4095, 4096}) {
            ExactReader x = new ExactReader();
            x.repeat('0', n - n / 4096);
            x.repeat('7', n / 4096);
            CHECK.same("one too many behind " + n, x.repeat('5', 4097 - n), NONE);
            CHECK.same("none has been added to " + n, x.write(0), n);
            CHECK.same("so many fit behind " + n, x.repeat(' ', 4096 - n), 4096);
            CHECK.same("what it is with " + n, x.kind(), n == 0 ? NONE : 0);
        }
    }

    private static void repeatNoneForWrappingSums() {
        CHECK.sentence("NONE, adding none, when there would be more than 4096 (a sum beyond an int)");
        for (int n : new int[] {0, 1, 4095, 4096}) {
            ExactReader x = filled('0', n);
            for (int many : new int[] {MOST, MOST - 1, MOST - 4095, MOST - 4096, 1 << 30, 65536, 65537, 8192}) {
                CHECK.same("repeat(49, " + many + ") behind " + n, x.repeat('1', many), NONE);
                CHECK.same("characters behind " + n, x.write(0), n);
            }
        }
    }

    private static void repeatRefusesCharacters() {
        CHECK.sentence("IllegalArgumentException: c is not 1 .. 255");
        ExactReader x = Check.reader("12");
        for (int c : new int[] {0, -1, 256, 257, -255, -207, 256 + '1', 65536 + '1', LEAST, LEAST + '1', MOST}) {
            for (int n : new int[] {0, 1, 4094, 4095, MOST}) {
                CHECK.fails("repeat(" + c + ", " + n + ")", () -> x.repeat(c, n), Check.IAE);
            }
        }
        holds(x, "refused", 12, 2);
        CHECK.fails("repeat(1, 1)", () -> x.repeat(1, 1), 0);
        CHECK.fails("repeat(255, 1)", () -> x.repeat(255, 1), 0);
        CHECK.same("1 is a blank, 255 is none", x.fault(), 3);
    }

    private static void repeatRefusesCounts() {
        CHECK.sentence("IllegalArgumentException: n is below 0 (repeat)");
        ExactReader x = Check.reader("12");
        for (int n : new int[] {-1, -2, -4096, LEAST, LEAST + 1}) {
            CHECK.fails("repeat(49, " + n + ")", () -> x.repeat('1', n), Check.IAE);
            CHECK.fails("repeat(0, " + n + ")", () -> x.repeat(0, n), Check.IAE);
        }
        holds(x, "refused", 12, 2);
        CHECK.fails("repeat(49, 0)", () -> x.repeat('1', 0), 0);
    }

    private static void repeatThrowsBeforeItAnswersNone() {
        CHECK.sentence("Methods throw what their comments name (repeat into a full text)");
        ExactReader x = filled('0', 4096);
        CHECK.fails("repeat(0, 1)", () -> x.repeat(0, 1), Check.IAE);
        CHECK.fails("repeat(256, 1)", () -> x.repeat(256, 1), Check.IAE);
        CHECK.fails("repeat(49, -1)", () -> x.repeat('1', -1), Check.IAE);
        CHECK.fails("repeat(49, 1)", () -> x.repeat('1', 1), 0);
        holds(x, "refused", 0, 4096);
    }

    private static void cutTheLast() {
        CHECK.sentence("The n last characters go");
        ExactReader x = Check.reader("1.25e2");
        CHECK.same("cut(0)", x.cut(0), 6);
        holds(x, "cut(0)", 125, 6);
        CHECK.same("cut(1)", x.cut(1), 5);
        CHECK.same("1.25e ends too early", x.fault(), 5);
        CHECK.same("cut(1)", x.cut(1), 4);
        holds(x, "1.25", 1.25, 4);
        CHECK.same("cut(3)", x.cut(3), 1);
        holds(x, "1", 1, 1);
        ExactReader full = filled('0', 4096);
        CHECK.same("cut(4095)", full.cut(4095), 1);
        holds(full, "one of 4096", 0, 1);
    }

    private static void cutAll() {
        CHECK.sentence("all if there are not so many");
        for (int length : new int[] {0, 1, 3, 4096}) {
            for (int more : new int[] {0, 1, 2, 4096, MOST - length}) {
                ExactReader x = filled('1', length);
                CHECK.same("cut(" + (length + more) + ") of " + length, x.cut(length + more), 0);
                CHECK.same("fault() then", x.fault(), 0);
                CHECK.same("wipe() then", x.wipe(), 0);
                CHECK.same("a 5 then", x.write('5'), 1);
                holds(x, "nothing but the 5", 5, 1);
            }
        }
    }

    private static void cutRefused() {
        CHECK.sentence("IllegalArgumentException: n is below 0 (cut)");
        for (int length : new int[] {0, 1, 4096}) {
            ExactReader x = filled('0', length);
            for (int n : new int[] {-1, -2, -4096, LEAST, LEAST + 1}) {
                CHECK.fails("cut(" + n + ") of " + length, () -> x.cut(n), Check.IAE);
                CHECK.same("characters", x.write(0), length);
            }
        }
    }

    private static void wipe() {
        CHECK.sentence("The text is empty then. Answers how many characters it had.");
        for (int length : new int[] {0, 1, 2, 4095, 4096}) {
            ExactReader x = filled('1', length);
            CHECK.same("wipe() of " + length, x.wipe(), length);
            CHECK.same("wipe() again", x.wipe(), 0);
            CHECK.same("kind() then", x.kind(), NONE);
            CHECK.same("fault() then", x.fault(), 0);
            CHECK.same("room for all", x.repeat('2', 4096), 4096);
        }
    }

    private static void throwingCallsChangeNothing() {
        CHECK.sentence("a call that throws, changes nothing");
        ExactReader x = Check.reader("-2.5e");
        for (int i = 0; i < 2; i++) {
            CHECK.fails("bits()", x::bits, Check.ISE);
            CHECK.fails("floatBits()", x::floatBits, Check.ISE);
            CHECK.fails("side(false)", () -> x.side(false), Check.ISE);
            CHECK.fails("side(true)", () -> x.side(true), Check.ISE);
            CHECK.fails("compare(0)", () -> x.compare(0), Check.ISE);
            CHECK.fails("repeat(0, 1)", () -> x.repeat(0, 1), Check.IAE);
            CHECK.fails("repeat(49, -1)", () -> x.repeat('1', -1), Check.IAE);
            CHECK.fails("cut(-1)", () -> x.cut(-1), Check.IAE);
            CHECK.same("fault()", x.fault(), 5);
        }
        CHECK.same("one more", x.write('1'), 6);
        CHECK.fails("compare(NaN)", () -> x.compare(Long.MAX_VALUE), Check.IAE);
        holds(x, "-2.5e1", -25, 6);
        ExactReader noNumber = Check.reader("NaN");
        CHECK.fails("compare(0) of NaN", () -> noNumber.compare(0), Check.IAE);
        CHECK.same("kind()", noNumber.kind(), 3);
        CHECK.same("wipe()", noNumber.wipe(), 3);
    }

    private static void noneChangesNothing() {
        CHECK.sentence("a call that answers NONE, changes nothing");
        ExactReader x = filled('0', 4093);
        CHECK.same("write of 4", x.write(Check.packed("1234")), NONE);
        CHECK.same("repeat of 4", x.repeat('1', 4), NONE);
        CHECK.same("fault()", x.fault(), NONE);
        holds(x, "4093 zeros", 0, 4093);
        CHECK.same("write of 3", x.write(Check.packed("1e2")), 4096);
        holds(x, "1e2 behind them", 100, 4096);
        ExactReader word = Check.reader("1x");
        CHECK.same("kind()", word.kind(), NONE);
        CHECK.same("cut(1)", word.cut(1), 1);
        holds(word, "1", 1, 1);
    }

    private static void readingKeepsTheText() {
        CHECK.sentence("The text stays when it is read.");
        for (String text : new String[] {" 1e400 ", "\t-1e-400", "0x1.8p1 ", "-Infinity", " NaN "}) {
            ExactReader x = Check.reader(text);
            long bits = x.bits();
            int floatBits = x.floatBits();
            int side = x.side(false);
            for (int i = 0; i < 2; i++) {
                CHECK.same("bits of" + text, x.bits(), bits);
                CHECK.same("floatBits of" + text, x.floatBits(), floatBits);
                CHECK.same("side(true) of" + text, x.side(true), side);
                CHECK.same("fault of" + text, x.fault(), NONE);
                CHECK.same("characters of" + text, x.write(0), text.length());
            }
            CHECK.same("a letter behind " + text, x.write('x'), text.length() + 1);
            CHECK.same("is where it was put", x.fault(), text.length());
        }
    }
}
