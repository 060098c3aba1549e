import java.util.function.LongSupplier;

/** What the tests share: texts put into a reader, and answers held against those that are due. */
final class Check {
    static final int ISE = 1;
    static final int IAE = 2;

    private int wrong = 0;
    private String sentence = "";

    static ExactReader reader(String text) {
        ExactReader reader = new ExactReader();
        put(reader, text);
        return reader;
    }

    static void put(ExactReader reader, String text) {
        for (int from = 0; from < text.length(); from += 8) {
            reader.write(packed(text.substring(from, Math.min(from + 8, text.length()))));
        }
    }

    /** Up to eight characters as the bytes of a long, the lowest first. */
    static long packed(String text) {
        long all = 0;
        for (int i = text.length() - 1; i >= 0; i--) {
            all = all << 8 | text.charAt(i);
        }
        return all;
    }

    /** The sentence of the document that the checks from here on hold the class to. */
    void sentence(String words) {
        sentence = "\"" + words + "\": ";
    }

    void same(String call, long got, long due) {
        if (got != due) {
            fail(call + " answered " + got + ", due is " + due);
        }
    }

    void fails(String call, LongSupplier body, int due) {
        int got = 0;
        try {
            body.getAsLong();
        } catch (IllegalStateException e) {
            got = ISE;
        } catch (IllegalArgumentException e) {
            got = IAE;
        }
        same(call + " throws (1 IllegalStateException, 2 IllegalArgumentException, 0 nothing)", got, due);
    }

    void fail(String what) {
        wrong++;
        if (wrong <= 50) {
            System.out.println(sentence + what);
        }
    }

    void end() {
        System.out.println(wrong == 0 ? "all answers are as due" : wrong + " answers are not as due");
        if (wrong != 0) {
            System.exit(1);
        }
    }
}
