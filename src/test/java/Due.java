import java.nio.charset.StandardCharsets;

/** Compares answers with what is due, and feeds texts to a school's tape. */
final class Due {
    private static int wrong = 0;
    private static int asked = 0;

    private Due() {
    }

    static void is(String call, long want, long got) {
        asked++;
        if (got != want) {
            wrong++;
            System.out.println(call + " answered " + got + ", due is " + want);
        }
    }

    static void is(String call, boolean want, boolean got) {
        is(call, want ? 1 : 0, got ? 1 : 0);
    }

    /** Feeds the bytes of the text, the last twenty filled up with blanks. */
    static int feed(ClothSchool x, String text) {
        byte[] bytes = text.getBytes(StandardCharsets.ISO_8859_1);
        int answer = x.count(3);
        for (int at = 0; at < bytes.length; at += 20) {
            int[] words = words(bytes, at);
            answer = x.feed(words[0], words[1], words[2], words[3], words[4]);
        }
        return answer;
    }

    static int[] words(byte[] bytes, int at) {
        int[] words = new int[5];
        for (int i = 0; i < 20; i++) {
            int b = at + i < bytes.length ? bytes[at + i] & 255 : ' ';
            words[i / 4] = words[i / 4] << 8 | b;
        }
        return words;
    }

    static int style(ClothSchool x, String text) {
        feed(x, text);
        return x.style(text.length());
    }

    static int moves(ClothSchool x, int... moves) {
        StringBuilder text = new StringBuilder();
        for (int m : moves) {
            text.append((char) m);
        }
        feed(x, text.toString());
        return x.moves(moves.length);
    }

    static void close() {
        System.out.println(asked + " answers compared, " + wrong + " not as due");
        if (wrong != 0) {
            System.exit(1);
        }
    }
}
