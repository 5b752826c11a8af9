import java.nio.charset.StandardCharsets;

/** Puts texts on a program's tape. */
final class Texts {
    private Texts() {
    }

    /** The text is the whole of the tape then, if that was empty. */
    static void put(TroupeSums x, String text) {
        byte[] bytes = text.getBytes(StandardCharsets.ISO_8859_1);
        for (int[] five : Both.fives(bytes)) {
            x.feed(five[0], five[1], five[2], five[3], five[4]);
        }
        x.end(bytes.length);
    }

    /** A new object with a troupe that must be right. */
    static TroupeSums told(String text) {
        TroupeSums x = new TroupeSums();
        put(x, text);
        if (x.troupe() < 0) {
            throw new IllegalStateException(text + ": fault " + x.fault(0) + " at " + x.fault(1));
        }
        return x;
    }
}
