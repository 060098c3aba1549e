/** Promises 1 to 5: a new object, write, repeat, cut, wipe. */
public final class TextTest {
    private static final Check CHECK = new Check();

    public static void main(String[] args) {
        newObject();
        write();
        writeAtTheLimit();
        repeat();
        repeatWrong();
        cut();
        wipe();
        readingKeepsTheText();
        refusedCallsKeepTheText();
        objectsAreApart();
        CHECK.end();
    }

    private static void newObject() {
        ExactReader x = new ExactReader();
        CHECK.same("new: kind()", x.kind(), -1);
        CHECK.same("new: fault()", x.fault(), 0);
        CHECK.same("new: write(0)", x.write(0), 0);
        CHECK.same("new: cut(0)", x.cut(0), 0);
        CHECK.same("new: wipe()", x.wipe(), 0);
        CHECK.fails("new: bits()", x::bits, Check.ISE);
    }

    private static void write() {
        ExactReader x = new ExactReader();
        CHECK.same("write: nothing", x.write(0), 0);
        CHECK.same("write: '1'", x.write(Check.packed("1")), 1);
        CHECK.same("write: lowest byte first", x.write(Check.packed(".5e1")), 5);
        CHECK.same("write: the text is 1.5e1", x.bits(), Double.doubleToRawLongBits(15));
        CHECK.same("write: zeros between are left out", x.write(0x3200_0000_0030_0000L), 7);
        CHECK.same("write: the text is 1.5e102", x.bits(), Double.doubleToRawLongBits(1.5e102));
        CHECK.same("write: eight characters", x.write(-1L), 15);
        CHECK.same("write: 255 is a character, and no blank", x.fault(), 7);
        x.wipe();
        CHECK.same("write: highest byte alone", x.write(0x3700_0000_0000_0000L), 1);
        CHECK.same("write: the text is 7", x.bits(), Double.doubleToRawLongBits(7));
        CHECK.same("write: 128 is a character", x.write(0x80L), 2);
        CHECK.same("write: 128 is no blank", x.fault(), 1);
    }

    private static void writeAtTheLimit() {
        ExactReader x = new ExactReader();
        for (int i = 1; i <= 511; i++) {
            CHECK.same("write number " + i, x.write(Check.packed("11111111")), 8 * i);
        }
        x = new ExactReader();
        CHECK.same("full: repeat(48, 4090)", x.repeat('0', 4090), 4090);
        CHECK.same("full: seven are too many", x.write(Check.packed("1234567")), -1);
        CHECK.same("full: none has been added", x.write(0), 4090);
        CHECK.same("full: nor is the text another", x.bits(), 0);
        CHECK.same("full: six fit, with zeros between", x.write(0x3635_0034_3300_3231L), 4096);
        CHECK.same("full: the text is 123456", x.bits(), Double.doubleToRawLongBits(123456));
        CHECK.same("full: one is too many", x.write('1'), -1);
        CHECK.same("full: none is not", x.write(0), 4096);
        CHECK.same("full: the text is still 123456", x.bits(), Double.doubleToRawLongBits(123456));
    }

    private static void repeat() {
        ExactReader x = new ExactReader();
        CHECK.same("repeat(49, 0)", x.repeat('1', 0), 0);
        CHECK.same("repeat(49, 3)", x.repeat('1', 3), 3);
        CHECK.same("repeat(48, 2)", x.repeat('0', 2), 5);
        CHECK.same("repeat: the text is 11100", x.bits(), Double.doubleToRawLongBits(11100));
        CHECK.same("repeat(1, 1)", x.repeat(1, 1), 6);
        CHECK.same("repeat: 1 is a blank", x.fault(), -1);
        CHECK.same("repeat(255, 1)", x.repeat(255, 1), 7);
        CHECK.same("repeat: 255 is none", x.fault(), 6);
        CHECK.same("repeat(49, 4089)", x.repeat('1', 4089), 4096);
        CHECK.same("repeat(49, 1) when full", x.repeat('1', 1), -1);
        CHECK.same("repeat(49, 0) when full", x.repeat('1', 0), 4096);
        CHECK.same("repeat with the most n", x.repeat('1', Integer.MAX_VALUE), -1);
        CHECK.same("repeat: 4096 stay", x.wipe(), 4096);
        CHECK.same("repeat(49, 4097)", x.repeat('1', 4097), -1);
        CHECK.same("repeat: empty stays", x.wipe(), 0);
        CHECK.same("repeat(49, 4096)", x.repeat('1', 4096), 4096);
        CHECK.same("repeat: a decimal", x.kind(), 0);
    }

    private static void repeatWrong() {
        ExactReader x = Check.reader("12");
        int[][] wrong = {
            {0, 1}, {256, 1}, {-1, 1}, {Integer.MIN_VALUE, 1}, {Integer.MAX_VALUE, 1}, {256 + '1', 1}, {0, 0},
            {'1', -1}, {'1', Integer.MIN_VALUE}, {0, 5000}, {0, -1}, {256, 5000}
        };
        for (int[] arguments : wrong) {
            CHECK.fails("repeat(" + arguments[0] + ", " + arguments[1] + ")",
                () -> x.repeat(arguments[0], arguments[1]), Check.IAE);
        }
        CHECK.same("repeat: the text is still 12", x.bits(), Double.doubleToRawLongBits(12));
        CHECK.same("repeat: two characters", x.wipe(), 2);
    }

    private static void cut() {
        ExactReader x = Check.reader("123.75e2");
        CHECK.same("cut(0)", x.cut(0), 8);
        CHECK.same("cut(2)", x.cut(2), 6);
        CHECK.same("cut: the text is 123.75", x.bits(), Double.doubleToRawLongBits(123.75));
        CHECK.fails("cut(-1)", () -> x.cut(-1), Check.IAE);
        CHECK.fails("cut(least)", () -> x.cut(Integer.MIN_VALUE), Check.IAE);
        CHECK.same("cut: the text is still 123.75", x.bits(), Double.doubleToRawLongBits(123.75));
        CHECK.same("cut(3)", x.cut(3), 3);
        CHECK.same("cut: behind the cut", x.write('9'), 4);
        CHECK.same("cut: the text is 1239", x.bits(), Double.doubleToRawLongBits(1239));
        CHECK.same("cut(5)", x.cut(5), 0);
        CHECK.same("cut of the empty text", x.cut(Integer.MAX_VALUE), 0);
        CHECK.same("cut: fault()", x.fault(), 0);
        Check.put(x, "12");
        CHECK.same("cut(2) of 2", x.cut(2), 0);
        Check.put(x, "12");
        CHECK.same("cut(most)", x.cut(Integer.MAX_VALUE), 0);
    }

    private static void wipe() {
        ExactReader x = Check.reader("1234567890");
        CHECK.same("wipe()", x.wipe(), 10);
        CHECK.same("wipe: kind()", x.kind(), -1);
        CHECK.same("wipe: fault()", x.fault(), 0);
        CHECK.same("wipe() again", x.wipe(), 0);
        CHECK.same("wipe: from the beginning", x.write('5'), 1);
        CHECK.same("wipe: the text is 5", x.bits(), Double.doubleToRawLongBits(5));
    }

    private static void readingKeepsTheText() {
        ExactReader x = Check.reader(" -2.5e-1 ");
        for (int i = 0; i < 3; i++) {
            CHECK.same("reading: kind()", x.kind(), 0);
            CHECK.same("reading: fault()", x.fault(), -1);
            CHECK.same("reading: floatBits()", x.floatBits(), Float.floatToRawIntBits(-0.25f));
            CHECK.same("reading: bits()", x.bits(), Double.doubleToRawLongBits(-0.25));
            CHECK.same("reading: side(true)", x.side(true), 0);
            CHECK.same("reading: side(false)", x.side(false), 0);
            CHECK.same("reading: compare(-0.25)", x.compare(Double.doubleToRawLongBits(-0.25)), 0);
            CHECK.same("reading: compare(8)", x.compare(Double.doubleToRawLongBits(8)), -1);
        }
        CHECK.same("reading: all characters are there", x.write(0), 9);
    }

    private static void refusedCallsKeepTheText() {
        ExactReader x = Check.reader("1e");
        CHECK.fails("refused: bits()", x::bits, Check.ISE);
        CHECK.fails("refused: floatBits()", x::floatBits, Check.ISE);
        CHECK.fails("refused: side(false)", () -> x.side(false), Check.ISE);
        CHECK.fails("refused: compare(0)", () -> x.compare(0), Check.ISE);
        CHECK.fails("refused: repeat(0, 1)", () -> x.repeat(0, 1), Check.IAE);
        CHECK.fails("refused: cut(-1)", () -> x.cut(-1), Check.IAE);
        CHECK.same("refused: repeat(48, 4095)", x.repeat('0', 4095), -1);
        CHECK.same("refused: the text is 1e3 then", x.write('3'), 3);
        CHECK.same("refused: bits()", x.bits(), Double.doubleToRawLongBits(1000));
        CHECK.fails("refused: compare(NaN)", () -> x.compare(-1), Check.IAE);
        CHECK.same("refused: bits() again", x.bits(), Double.doubleToRawLongBits(1000));
    }

    private static void objectsAreApart() {
        ExactReader one = Check.reader("1");
        ExactReader two = Check.reader("2");
        CHECK.same("apart: 1", one.bits(), Double.doubleToRawLongBits(1));
        CHECK.same("apart: 2", two.bits(), Double.doubleToRawLongBits(2));
        one.wipe();
        CHECK.same("apart: still 2", two.bits(), Double.doubleToRawLongBits(2));
    }
}
