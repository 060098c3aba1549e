/**
 * Texts of numbers, decimal and hexadecimal, of any length, read as the doubles and floats that are
 * nearest to just what they say; and told how that lies to what they say.
 */
public final class ExactReader {
    public static final int NONE = -1;

    private static final int MOST_CHARACTERS = 4096;
    private static final int BYTES_OF_LONG = 8;

    private static final int DECIMAL = 0;
    private static final int HEXADECIMAL = 1;
    private static final int INFINITY = 2;
    private static final int NOT_A_NUMBER = 3;

    private final NumberText text;
    private final Measure measure;
    private final Size said;
    private final Size other;
    private final Rounding rounding;

    public ExactReader() {
        text = new NumberText();
        measure = new Measure();
        said = new Size();
        other = new Size();
        rounding = new Rounding();
    }

    public int write(long characters) {
        int more = 0;
        for (int i = 0; i < BYTES_OF_LONG; i++) {
            if (byteOf(characters, i) != 0) {
                more++;
            }
        }
        if (more > text.room()) {
            return NONE;
        }
        for (int i = 0; i < BYTES_OF_LONG; i++) {
            text.append(byteOf(characters, i));
        }
        return text.length;
    }

    public int repeat(int c, int n) throws IllegalArgumentException {
        if (c < 1 || c > 255 || n < 0) {
            throw new IllegalArgumentException("no character, or a number of times below 0");
        }
        if (n > text.room()) {
            return NONE;
        }
        for (int i = 0; i < n; i++) {
            text.append((char) c);
        }
        return text.length;
    }

    public int cut(int n) throws IllegalArgumentException {
        if (n < 0) {
            throw new IllegalArgumentException("a number of characters below 0");
        }
        text.dropLast(n);
        return text.length;
    }

    public int wipe() {
        int had = text.length;
        text.dropLast(had);
        return had;
    }

    public int kind() {
        text.scan();
        return text.found;
    }

    public int fault() {
        text.scan();
        return text.wrongAt;
    }

    public long bits() throws IllegalStateException {
        text.scan();
        if (text.found == NONE) {
            throw new IllegalStateException("the text is no number text");
        }
        return bitsRead(Format.DOUBLE);
    }

    public int floatBits() throws IllegalStateException {
        text.scan();
        if (text.found == NONE) {
            throw new IllegalStateException("the text is no number text");
        }
        return (int) bitsRead(Format.FLOAT);
    }

    public int side(boolean asFloat) throws IllegalStateException {
        text.scan();
        if (text.found == NONE) {
            throw new IllegalStateException("the text is no number text");
        }
        if (text.found == INFINITY || text.found == NOT_A_NUMBER) {
            return 0;
        }
        measureText();
        rounding.round(said, asFloat ? Format.FLOAT : Format.DOUBLE);
        return text.negative ? -rounding.lies : rounding.lies;
    }

    public int compare(long bits) throws IllegalStateException, IllegalArgumentException {
        text.scan();
        if (text.found == NONE) {
            throw new IllegalStateException("the text is no number text");
        }
        if (text.found == NOT_A_NUMBER || Format.areNoNumber(bits)) {
            throw new IllegalArgumentException("what is no number lies nowhere");
        }
        measureText();
        other.setDouble(bits);
        int signSaid = said.signWith(text.negative);
        int signOther = other.signWith(bits < 0);
        if (signSaid != signOther) {
            return Integer.compare(signSaid, signOther);
        }
        return signSaid * said.order(other);
    }

    private static char byteOf(long characters, int index) {
        return (char) ((characters >>> (8 * index)) & 255);
    }

    private long bitsRead(Format format) {
        if (text.found == NOT_A_NUMBER) {
            return format.bitsOfNoNumber();
        }
        measureText();
        rounding.round(said, format);
        long size = rounding.bitsOfSize(format);
        return text.negative ? size | format.signBit() : size;
    }

    private void measureText() {
        if (text.measured) {
            return;
        }
        text.measured = true;
        if (text.found == HEXADECIMAL) {
            measure.hexadecimal(text, said);
        } else if (text.found == DECIMAL) {
            measure.decimal(text, said);
        } else {
            said.setInfinite();
        }
    }

    /** The two formats, by the names that the document gives to their properties. */
    private enum Format {
        DOUBLE(53, -1074, 11),
        FLOAT(24, -149, 8);

        private final int precision;
        private final int least;
        private final int exponentBits;

        Format(int precision, int least, int exponentBits) {
            this.precision = precision;
            this.least = least;
            this.exponentBits = exponentBits;
        }

        private static boolean areNoNumber(long bits) {
            return DOUBLE.exponentField(bits) == DOUBLE.infiniteField() && DOUBLE.lowField(bits) != 0;
        }

        private int infiniteField() {
            return (1 << exponentBits) - 1;
        }

        /** The k that belongs to the exponent field, but for 0 and the infinite one. */
        private int exponentOf(int field) {
            return field - 1 + least;
        }

        private int exponentField(long bits) {
            return (int) (bits >>> (precision - 1)) & infiniteField();
        }

        private long lowField(long bits) {
            return bits & (hiddenBit() - 1);
        }

        private long hiddenBit() {
            return 1L << (precision - 1);
        }

        private long signBit() {
            return 1L << (precision - 1 + exponentBits);
        }

        private long bitsOf(int field, long m) {
            return ((long) field << (precision - 1)) | lowField(m);
        }

        private long bitsOfNoNumber() {
            return bitsOf(infiniteField(), hiddenBit() >>> 1);
        }
    }

    /** The text, and what it is: that is found from its beginning on, as far as what stands there can stand there. */
    private static final class NumberText {
        /** Far above what the digits and the point can weigh up: an exponent beyond it says no more than it does. */
        private static final int MOST_EXPONENT = 1000000;
        private static final int LAST_BLANK = 32;
        /** No character of a text. */
        private static final char END = 0;

        private final char[] row;
        private int length;
        /** What one call has found out serves the next ones, until the text changes. */
        private boolean scanned;
        private boolean measured;

        private int at;
        private int found;
        private int wrongAt;
        private boolean negative;
        private int digitsFrom;
        private int digitsTo;
        /** How many digits there are from the first that is not 0 on. */
        private int significant;
        /** How many digits there are behind the point. */
        private int fraction;
        private int exponent;

        NumberText() {
            row = new char[MOST_CHARACTERS];
        }

        private int room() {
            return row.length - length;
        }

        private void append(char c) {
            if (c != END && length >= 0 && length < row.length) {
                row[length] = c;
                length++;
                scanned = false;
            }
        }

        private void dropLast(int n) {
            length -= Math.min(n, length);
            scanned = false;
        }

        private void scan() {
            if (scanned) {
                return;
            }
            scanned = true;
            measured = false;
            at = 0;
            skipBlanks();
            negative = here() == '-';
            skipOneOf('+', '-');
            found = takeBody();
            if (found != NONE) {
                skipBlanks();
                found = at < length ? NONE : found;
            }
            wrongAt = found == NONE ? at : NONE;
        }

        private char here() {
            return at >= 0 && at < length && at < row.length ? row[at] : END;
        }

        private char characterAt(int index) {
            return index >= 0 && index < length && index < row.length ? row[index] : END;
        }

        private void skipBlanks() {
            while (at < length && here() <= LAST_BLANK) {
                at++;
            }
        }

        private boolean skipOneOf(char one, char another) {
            char c = here();
            if (c != one && c != another) {
                return false;
            }
            at++;
            return true;
        }

        private int takeBody() {
            if (here() == 'N') {
                return takeWord("NaN") ? NOT_A_NUMBER : NONE;
            }
            if (here() == 'I') {
                return takeWord("Infinity") ? INFINITY : NONE;
            }
            char next = characterAt(at + 1);
            if (here() == '0' && (next == 'x' || next == 'X')) {
                at += 2;
                return takeHexadecimal() ? HEXADECIMAL : NONE;
            }
            return takeDecimal() ? DECIMAL : NONE;
        }

        private boolean takeWord(String word) {
            for (int i = 0; i < word.length(); i++) {
                if (here() != word.charAt(i)) {
                    return false;
                }
                at++;
            }
            return true;
        }

        private boolean takeDecimal() {
            exponent = 0;
            if (!takeDigits(10)) {
                return false;
            }
            if (skipOneOf('e', 'E') && !takeExponent()) {
                return false;
            }
            skipSuffix();
            return true;
        }

        private boolean takeHexadecimal() {
            if (!takeDigits(16) || !skipOneOf('p', 'P') || !takeExponent()) {
                return false;
            }
            skipSuffix();
            return true;
        }

        private boolean takeDigits(int base) {
            boolean digitSeen = false;
            boolean pointSeen = false;
            significant = 0;
            fraction = 0;
            digitsFrom = at;
            for (; at < length; at++) {
                char c = here();
                int digit = digitOf(c, base);
                if (digit != NONE) {
                    digitSeen = true;
                    significant += significant > 0 || digit > 0 ? 1 : 0;
                    fraction += pointSeen ? 1 : 0;
                } else if (c == '.' && !pointSeen) {
                    pointSeen = true;
                } else {
                    break;
                }
            }
            digitsTo = at;
            return digitSeen;
        }

        private boolean takeExponent() {
            boolean below = here() == '-';
            skipOneOf('+', '-');
            int first = at;
            int size = 0;
            for (; at < length; at++) {
                int digit = digitOf(here(), 10);
                if (digit == NONE) {
                    break;
                }
                size = Math.min(size * 10 + digit, MOST_EXPONENT);
            }
            exponent = below ? -size : size;
            return at > first;
        }

        private void skipSuffix() {
            if (!skipOneOf('d', 'D')) {
                skipOneOf('f', 'F');
            }
        }

        /** The digit that stands there, NONE for the point. */
        private int digitAt(int index, int base) {
            return digitOf(characterAt(index), base);
        }

        private static int digitOf(char c, int base) {
            if (c >= '0' && c <= '9') {
                return c - '0';
            }
            if (base == 16 && c >= 'a' && c <= 'f') {
                return c - 'a' + 10;
            }
            if (base == 16 && c >= 'A' && c <= 'F') {
                return c - 'A' + 10;
            }
            return NONE;
        }
    }

    /** Finds the size of what a text says. */
    private static final class Measure {
        /** All numbers from 10 to the 311 on lie alike to every double, and so do all below 10 to the -330 but 0. */
        private static final int HIGHEST_DIGIT = 310;
        private static final int LOWEST_DIGIT = -330;
        private static final int FAR_PLACE = 4000;
        /**
         * The 63 leading bits of a number not below 10 to the -330 end at 2 to the -1159 or above, so as a decimal
         * they have at most 830 digits: of the digits behind these it counts only whether one is not 0.
         */
        private static final int MOST_DIGITS_KEPT = 900;

        private final Natural natural;

        Measure() {
            natural = new Natural();
        }

        private void hexadecimal(NumberText text, Size said) {
            said.begin();
            for (int i = text.digitsFrom; i < text.digitsTo; i++) {
                int digit = text.digitAt(i, 16);
                if (digit != NONE) {
                    said.push(digit, 4);
                }
            }
            said.end(text.exponent - 4 * text.fraction, false);
        }

        private void decimal(NumberText text, Size said) {
            int lastDigit = text.exponent - text.fraction;
            int firstDigit = lastDigit + text.significant - 1;
            if (text.significant == 0) {
                said.set(0, 0);
            } else if (firstDigit > HIGHEST_DIGIT) {
                said.set(1, FAR_PLACE);
            } else if (firstDigit < LOWEST_DIGIT) {
                said.set(1, -FAR_PLACE);
            } else {
                int kept = Math.min(text.significant, MOST_DIGITS_KEPT);
                boolean moreBehind = loadDigits(text, kept);
                takeTimesTen(firstDigit - kept + 1, moreBehind, said);
            }
        }

        /** Takes so many digits from the first that is not 0 on; tells if one behind them is not 0. */
        private boolean loadDigits(NumberText text, int kept) {
            boolean moreBehind = false;
            int taken = 0;
            natural.begin();
            for (int i = text.digitsFrom; i < text.digitsTo; i++) {
                int digit = text.digitAt(i, 10);
                if (digit == NONE || (digit == 0 && taken == 0)) {
                    continue;
                }
                if (taken < kept) {
                    natural.pushDigit(digit);
                    taken++;
                } else if (digit != 0) {
                    moreBehind = true;
                }
            }
            natural.end();
            return moreBehind;
        }

        /** 10 to the power is 5 to it, which is worked out here, times 2 to it, which is only a place. */
        private void takeTimesTen(int power, boolean moreBehind, Size said) {
            boolean rest = moreBehind;
            int raised = 0;
            if (power >= 0) {
                natural.multiplyByFives(power);
            } else {
                raised = natural.raiseAboveFives(-power);
                rest |= natural.divideByFives(-power);
            }
            said.begin();
            for (int i = natural.size - 1; i >= 0; i--) {
                said.push(natural.wordAt(i), 32);
            }
            said.end(power - raised, rest);
        }
    }

    /** A whole number of many words, the lowest first, in a row that is used again for every text. */
    private static final class Natural {
        /** 900 digits need 94 words, and 5 to the 1229 with 64 bits more in a quotient not more than these. */
        private static final int MOST_WORDS = 100;
        private static final long LOW_WORD = 0xFFFFFFFFL;
        private static final int BILLION = 1000000000;
        private static final int MOST_FIVES = 13;
        private static final int[] FIVES = {
            1, 5, 25, 125, 625, 3125, 15625, 78125, 390625, 1953125, 9765625, 48828125, 244140625, 1220703125
        };

        private final int[] words;
        private int size;
        /** Digits are gathered here, for a word's multiplication takes nine at once. */
        private int gathered;
        private int weight;

        Natural() {
            words = new int[MOST_WORDS];
            weight = 1;
        }

        private int wordAt(int index) {
            return index >= 0 && index < size && index < words.length ? words[index] : 0;
        }

        private void begin() {
            size = 0;
            gathered = 0;
            weight = 1;
        }

        private void pushDigit(int digit) {
            gathered = gathered * 10 + digit;
            weight *= 10;
            if (weight == BILLION) {
                end();
            }
        }

        private void end() {
            multiplyAdd(weight, gathered);
            gathered = 0;
            weight = 1;
        }

        private void multiplyAdd(int factor, int addend) {
            long carry = addend;
            for (int i = 0; i < size && i < words.length; i++) {
                long sum = (words[i] & LOW_WORD) * factor + carry;
                words[i] = (int) sum;
                carry = sum >>> 32;
            }
            if (carry != 0 && size >= 0 && size < words.length) {
                words[size] = (int) carry;
                size++;
            }
        }

        private static int powerOfFive(int count) {
            return count >= 0 && count < FIVES.length ? FIVES[count] : 1;
        }

        private void multiplyByFives(int count) {
            for (int left = count; left > 0; left -= MOST_FIVES) {
                multiplyAdd(powerOfFive(Math.min(left, MOST_FIVES)), 0);
            }
        }

        /** Tells if a rest has been lost. */
        private boolean divideByFives(int count) {
            boolean rest = false;
            for (int left = count; left > 0; left -= MOST_FIVES) {
                rest |= divide(powerOfFive(Math.min(left, MOST_FIVES)));
            }
            return rest;
        }

        private boolean divide(int divisor) {
            if (divisor < 1) {
                return false;
            }
            long rest = 0;
            for (int i = Math.min(size, words.length) - 1; i >= 0; i--) {
                long part = (rest << 32) | (words[i] & LOW_WORD);
                long quotient = part / divisor;
                words[i] = (int) quotient;
                rest = part - quotient * divisor;
            }
            while (size > 0 && wordAt(size - 1) == 0) {
                size--;
            }
            return rest != 0;
        }

        /**
         * Multiplies by a power of 2, and answers which, so that the quotient by so many fives has 64 bits or more:
         * a five takes less than 7/3 bits; of the four words more, one is lost by rounding and one may be the highest.
         */
        private int raiseAboveFives(int count) {
            int wanted = Math.min(count * 7 / (3 * 32) + 4, words.length);
            int up = wanted - size;
            if (up <= 0) {
                return 0;
            }
            for (int i = wanted - 1; i >= 0; i--) {
                words[i] = wordAt(i - up);
            }
            size = wanted;
            return 32 * up;
        }
    }

    /**
     * The size of a number: lead times 2 to the place, and more, but less than 2 to the place more, if there is a rest.
     * The highest bit of lead is bit 62, unless the number is 0. So lead has more bits than any number of a format,
     * and what lies behind lead can only decide where lead alone leaves it open.
     */
    private static final class Size {
        private static final long FULL_LEAD = 1L << 62;
        private static final int INFINITE_PLACE = 1 << 30;

        private long lead;
        private int place;
        private boolean rest;

        private void begin() {
            lead = 0;
            place = 0;
            rest = false;
        }

        /** The lowest bits of value come behind the bits that are there. */
        private void push(int value, int width) {
            if (lead >= FULL_LEAD) {
                place += width;
                rest |= value != 0;
                return;
            }
            for (int i = width - 1; i >= 0; i--) {
                pushBit((value >>> i) & 1);
            }
        }

        private void pushBit(int bit) {
            if (lead >= FULL_LEAD) {
                place++;
                rest |= bit != 0;
            } else {
                lead = (lead << 1) | bit;
            }
        }

        /** The last bit that was pushed has this place. */
        private void end(int lastPlace, boolean moreBehind) {
            boolean restPushed = rest;
            set(lead, lastPlace + place);
            rest = restPushed || moreBehind;
        }

        /** Takes m times 2 to the k, m from 0 to below 2 to the 63. */
        private void set(long m, int k) {
            int up = m == 0 ? 0 : Long.numberOfLeadingZeros(m) - 1;
            lead = m << up;
            place = k - up;
            rest = false;
        }

        private void setInfinite() {
            set(FULL_LEAD, INFINITE_PLACE);
        }

        private void setDouble(long bits) {
            int field = Format.DOUBLE.exponentField(bits);
            long low = Format.DOUBLE.lowField(bits);
            if (field == Format.DOUBLE.infiniteField()) {
                setInfinite();
            } else if (field == 0) {
                set(low, Format.DOUBLE.least);
            } else {
                set(low | Format.DOUBLE.hiddenBit(), Format.DOUBLE.exponentOf(field));
            }
        }

        private int signWith(boolean negative) {
            if (lead == 0) {
                return 0;
            }
            return negative ? -1 : 1;
        }

        /** How this lies to a size that has no rest, neither of them 0. */
        private int order(Size exact) {
            if (place != exact.place) {
                return Integer.compare(place, exact.place);
            }
            if (lead != exact.lead) {
                return Long.compare(lead, exact.lead);
            }
            return rest ? 1 : 0;
        }
    }

    /** The number of a format that is nearest to a size, and how it lies to it. */
    private static final class Rounding {
        private static final int LEAD_BITS = 63;

        private long m;
        private int k;
        private boolean infinite;
        private int lies;

        private void round(Size said, Format format) {
            k = Math.max(format.least, said.place + LEAD_BITS - format.precision);
            infinite = false;
            int dropped = k - said.place;
            if (said.lead == 0) {
                setWhole(0, 0);
            } else if (dropped > LEAD_BITS) {
                // less than half of the least number, however much less
                setWhole(0, -1);
            } else {
                roundLead(said, dropped);
                carry(format);
            }
        }

        private void setWhole(long newM, int newLies) {
            m = newM;
            lies = newLies;
        }

        /** Dropped is from 10, by the precisions, to 63. */
        private void roundLead(Size said, int dropped) {
            long kept = said.lead >>> dropped;
            long low = said.lead & ((1L << dropped) - 1);
            long half = 1L << (dropped - 1);
            boolean above = low > half || (low == half && said.rest);
            boolean tieToEven = low == half && (kept & 1) == 1;
            if (above || tieToEven) {
                setWhole(kept + 1, 1);
            } else {
                setWhole(kept, low == 0 && !said.rest ? 0 : -1);
            }
        }

        private void carry(Format format) {
            if (m >= 2 * format.hiddenBit()) {
                m >>>= 1;
                k++;
            }
            if (k > format.exponentOf(format.infiniteField() - 1)) {
                infinite = true;
                lies = 1;
            }
        }

        private long bitsOfSize(Format format) {
            if (infinite) {
                return format.bitsOf(format.infiniteField(), 0);
            }
            int field = m < format.hiddenBit() ? 0 : k - format.least + 1;
            return format.bitsOf(field, m);
        }
    }
}
