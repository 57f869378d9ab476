import java.nio.charset.StandardCharsets;

/** How texts come to the tape: in twenties of bytes, the last one filled up with blanks. */
final class Texts {
    private Texts() {
    }

    /** The numbers of feed(), five for each twenty bytes. */
    static int[] numbers(String text) {
        byte[] bytes = text.getBytes(StandardCharsets.ISO_8859_1);
        int feeds = (bytes.length + 19) / 20;
        int[] numbers = new int[feeds * 5];
        for (int i = 0; i < feeds * 20; i++) {
            int b = i < bytes.length ? bytes[i] & 255 : 32;
            numbers[i / 4] = numbers[i / 4] << 8 | b;
        }
        return numbers;
    }

    static void feed(LuckCrates x, String text) {
        int[] n = numbers(text);
        for (int i = 0; i + 4 < n.length; i += 5) {
            x.feed(n[i], n[i + 1], n[i + 2], n[i + 3], n[i + 4]);
        }
    }

    static int province(LuckCrates x, String text) {
        feed(x, text);
        return x.province(text.length());
    }

    /** A new object with a province. */
    static LuckCrates told(String text) {
        LuckCrates x = new LuckCrates();
        int fault = province(x, text);
        if (fault != 0) {
            throw new IllegalStateException("FAULT " + fault + " at " + x.fault() + " of: " + text);
        }
        return x;
    }
}
