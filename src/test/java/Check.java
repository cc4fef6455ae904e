import java.nio.charset.StandardCharsets;

/** What the tests share: comparing answers, and bringing a text to the tape. */
final class Check {
    private final String name;
    private String sentence = "";
    private int asked = 0;
    private int wrong = 0;

    Check(String name) {
        this.name = name;
    }

    /** The sentence of the document that the next answers are due by. */
    void sentence(String words) {
        sentence = "\"" + words + "\": ";
    }

    void due(String call, long got, long want) {
        asked++;
        if (got != want) {
            wrong++;
            System.out.println(name + ": " + sentence + call + " answered " + got + ", due is " + want);
        }
    }

    void due(String call, boolean got, boolean want) {
        due(call, got ? 1L : 0L, want ? 1L : 0L);
    }

    boolean hasWrong() {
        return wrong > 0;
    }

    void end() {
        System.out.println(name + ": " + asked + " answers, " + wrong + " not as due");
        if (wrong > 0) {
            System.exit(1);
        }
    }

    static byte[] bytes(String text) {
        return text.getBytes(StandardCharsets.ISO_8859_1);
    }

    /** The i-th int of four bytes; bytes behind the text's end are blanks. */
    static int four(byte[] text, int i) {
        int all = 0;
        for (int k = 4 * i; k < 4 * i + 4; k++) {
            all = all << 8 | (k < text.length ? text[k] & 255 : ' ');
        }
        return all;
    }

    /** Feeds a text to an empty tape; the last feed's padding is taken back. */
    static void feed(ShowRings x, String text) {
        byte[] bytes = bytes(text);
        int calls = (bytes.length + 19) / 20;
        for (int i = 0; i < calls; i++) {
            x.feed(four(bytes, 5 * i), four(bytes, 5 * i + 1), four(bytes, 5 * i + 2),
                    four(bytes, 5 * i + 3), four(bytes, 5 * i + 4));
        }
        x.back(20 * calls - bytes.length);
    }

    static int read(ShowRings x, String text) {
        feed(x, text);
        return x.read();
    }
}
