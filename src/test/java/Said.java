import java.math.BigDecimal;
import java.math.BigInteger;

/** What a decimal or hexadecimal says, worked out exactly with the library's numbers. */
final class Said {
    private static final BigDecimal TWO = BigDecimal.valueOf(2);

    private Said() {
    }

    static BigDecimal of(String text) {
        String bare = text.trim();
        boolean negative = bare.startsWith("-");
        if (negative || bare.startsWith("+")) {
            bare = bare.substring(1);
        }
        boolean isHexadecimal = bare.startsWith("0x") || bare.startsWith("0X");
        BigDecimal size = isHexadecimal ? hexadecimal(bare.substring(2)) : new BigDecimal(withoutSuffix(bare));
        return negative ? size.negate() : size;
    }

    static BigDecimal powerOfTwo(int exponent) {
        return exponent >= 0 ? TWO.pow(exponent) : new BigDecimal("0.5").pow(-exponent);
    }

    private static BigDecimal hexadecimal(String bare) {
        String[] parts = withoutSuffix(bare.replace('P', 'p'), bare.toLowerCase().indexOf('p')).split("p");
        int point = parts[0].indexOf('.');
        int fraction = point < 0 ? 0 : parts[0].length() - 1 - point;
        BigInteger digits = new BigInteger(parts[0].replace(".", ""), 16);
        return new BigDecimal(digits).multiply(powerOfTwo(Integer.parseInt(parts[1]) - 4 * fraction));
    }

    private static String withoutSuffix(String text) {
        return withoutSuffix(text, 0);
    }

    private static String withoutSuffix(String text, int from) {
        boolean hasSuffix = text.length() > from && "dDfF".indexOf(text.charAt(text.length() - 1)) >= 0;
        return hasSuffix ? text.substring(0, text.length() - 1) : text;
    }
}
