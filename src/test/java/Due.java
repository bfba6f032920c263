import java.nio.charset.StandardCharsets;

/** What the tests share: counting answers that are not due, and telling texts by the tape. */
final class Due {
    private static int asked = 0;
    private static int wrong = 0;

    private Due() {
    }

    static void is(String call, long got, long want) {
        asked++;
        if (got != want) {
            wrong++;
            System.out.println(call + " answered " + got + ", due is " + want);
        }
    }

    static void is(String call, boolean got, boolean want) {
        is(call, got ? 1 : 0, want ? 1 : 0);
    }

    /** Feeds the bytes behind what the tape has, in pieces of twenty, and cuts what is too much. */
    static void feed(MuleVote x, String text) {
        byte[] bytes = text.getBytes(StandardCharsets.ISO_8859_1);
        int had = 0;
        for (int at = 0; at < bytes.length; at += 20) {
            int[] fours = new int[5];
            for (int i = 0; i < 20; i++) {
                int b = at + i < bytes.length ? bytes[at + i] & 255 : ' ';
                fours[i / 4] = fours[i / 4] << 8 | b;
            }
            had = x.feed(fours[0], fours[1], fours[2], fours[3], fours[4]);
        }
        if (bytes.length > 0) {
            x.end(had - (20 - bytes.length % 20) % 20);
        }
    }

    static int tell(MuleVote x, int k, String text) {
        x.end(0);
        feed(x, text);
        return x.text(k);
    }

    /** The text must be refused with that fault at that place. */
    static void fault(MuleVote x, int k, String text, int fault, int place) {
        is("text(" + k + ") of '" + text + "'", tell(x, k, text), -1);
        is("fault(0) of '" + text + "'", x.fault(0), fault);
        is("fault(1) of '" + text + "'", x.fault(1), place);
    }

    static void end(String test) {
        System.out.println(test + ": " + asked + " answers, " + wrong + " not as due");
        if (wrong != 0) {
            System.exit(1);
        }
    }
}
