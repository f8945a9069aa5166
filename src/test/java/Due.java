import java.nio.charset.StandardCharsets;

/** What the tests share: answers compared with those that are due, and texts put on the TAPE. */
final class Due {
    private static int wrong = 0;

    private Due() {
    }

    static void due(String call, long got, long want) {
        if (got != want) {
            wrong++;
            if (wrong <= 40) {
                System.out.println(call + " answered " + got + ", due is " + want);
            }
        }
    }

    static void due(String call, boolean got, boolean want) {
        due(call, got ? 1 : 0, want ? 1 : 0);
    }

    static void finish() {
        System.out.println(wrong == 0 ? "all answers are as due" : wrong + " answers are not as due");
        if (wrong != 0) {
            System.exit(1);
        }
    }

    /** Feeds a text, as its bytes, and ends the TAPE behind it. */
    static void feed(SlabWalk x, String text) {
        feed(x, text.getBytes(StandardCharsets.ISO_8859_1));
    }

    static void feed(SlabWalk x, byte[] bytes) {
        int before = x.about(11);
        for (int from = 0; from < bytes.length; from += 20) {
            x.feed(four(bytes, from), four(bytes, from + 4), four(bytes, from + 8), four(bytes, from + 12), four(bytes, from + 16));
        }
        x.end(before + bytes.length);
    }

    private static int four(byte[] bytes, int from) {
        int number = 0;
        for (int i = from; i < from + 4; i++) {
            number = number << 8 | (i < bytes.length ? bytes[i] & 255 : 0);
        }
        return number;
    }

    /** A new object with this PAVEMENT, which has to be a good one. */
    static SlabWalk on(String text) {
        SlabWalk x = new SlabWalk();
        feed(x, text);
        int streets = x.pavement();
        due("fault(0) of: " + text, x.fault(0), 0);
        due("pavement() of: " + text, streets, x.about(0));
        return x;
    }

    static void lie(String call, SlabWalk x, int... heels) {
        due(call + ", about(13)", x.about(13), heels.length);
        for (int i = 0; i < heels.length; i++) {
            due(call + ", lies(" + i + ")", x.lies(i), heels[i]);
        }
        due(call + ", lies(-1)", x.lies(-1), -1);
        due(call + ", lies(" + heels.length + ")", x.lies(heels.length), -1);
    }

    static void state(String call, SlabWalk x, int... walker) {
        for (int what = 0; what < walker.length; what++) {
            due(call + ", walker(" + what + ")", x.walker(what), walker[what]);
        }
    }
}
