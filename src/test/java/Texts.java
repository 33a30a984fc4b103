import java.nio.charset.StandardCharsets;

/** Puts texts on the TAPE. */
final class Texts {
    private Texts() {
    }

    /** Makes a text the TAPE, in place of what is there. */
    static void tape(RaftForest forest, String text) {
        tape(forest, text.getBytes(StandardCharsets.ISO_8859_1));
    }

    static void tape(RaftForest forest, byte[] bytes) {
        forest.end(0);
        for (int i = 0; i < bytes.length; i += 20) {
            forest.feed(number(bytes, i), number(bytes, i + 4), number(bytes, i + 8), number(bytes, i + 12),
                    number(bytes, i + 16));
        }
        forest.end(bytes.length);
    }

    private static int number(byte[] bytes, int from) {
        int number = 0;
        for (int i = from; i < from + 4; i++) {
            number = number << 8 | (i < bytes.length ? bytes[i] & 255 : 0);
        }
        return number;
    }

    static int river(RaftForest forest, String text) {
        tape(forest, text);
        return forest.river();
    }

    static int rule(RaftForest forest, String text) {
        tape(forest, text);
        return forest.rule();
    }

    /** A new object with a RIVER. */
    static RaftForest forest(String text) {
        RaftForest forest = new RaftForest();
        if (river(forest, text) < 0) {
            throw new IllegalStateException("not a river: " + text);
        }
        return forest;
    }

    /** What river and rule answer of a FAULT. */
    static int fault(int place, int kind) {
        return -2 - (1 + 8 * place + kind);
    }
}
