import java.nio.charset.StandardCharsets;

/** Feeds texts to an object as feed and end take them. */
final class Text {
    private Text() {
    }

    /** The text must fit behind what the tape has, filled up to whole twenties. */
    static void put(BulbPapers x, String text) {
        byte[] bytes = text.getBytes(StandardCharsets.ISO_8859_1);
        int before = x.about(8);
        for (int at = 0; at < bytes.length; at += 20) {
            x.feed(four(bytes, at), four(bytes, at + 4), four(bytes, at + 8),
                    four(bytes, at + 12), four(bytes, at + 16));
        }
        x.end(before + bytes.length);
    }

    static int house(BulbPapers x, String text) {
        put(x, text);
        return x.house();
    }

    static int four(byte[] bytes, int at) {
        int value = 0;
        for (int i = at; i < at + 4; i++) {
            value = value << 8 | (i < bytes.length ? bytes[i] & 255 : ' ');
        }
        return value;
    }
}
