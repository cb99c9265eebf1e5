import java.util.Arrays;

/** What the tests share: comparing answers, filling a box, and writing codes by hand. */
final class Check {
    interface Call {
        Object answer();
    }

    static final String ILLEGAL = "throws.IllegalArgumentException";
    static final String BROKEN = "throws.UnsupportedOperationException";
    static final String OUTSIDE = "throws.IndexOutOfBoundsException";

    private static int wrong = 0;
    private static String sentence = "";

    private Check() {
    }

    /** The document's words that the next answers are about; a wrong answer is told with them. */
    static void about(String words) {
        sentence = "[" + words + "] ";
    }

    /** The answer as text, or throws.Name if the call throws just that. */
    static String told(Call call) {
        try {
            return String.valueOf(call.answer());
        } catch (RuntimeException e) {
            return "throws." + e.getClass().getSimpleName();
        }
    }

    static void due(String what, Call call, Object want) {
        same(what, told(call), String.valueOf(want));
    }

    static void same(String what, Object got, Object want) {
        if (!String.valueOf(got).equals(String.valueOf(want))) {
            wrong++;
            System.out.println(sentence + what + ": answered " + got + ", due is " + want);
        }
    }

    static void finish() {
        System.out.println(wrong == 0 ? "all answers are as due" : wrong + " answers are not as due");
        if (wrong != 0) {
            System.exit(1);
        }
    }

    static int intAt(int[] bytes, int at) {
        int four = 0;
        for (int k = 0; k < 4; k++) {
            four = four << 8 | (at + k < bytes.length ? bytes[at + k] : 0);
        }
        return four;
    }

    /** Puts these bytes alone on the tape. */
    static void put(LzwBox box, int... bytes) {
        box.end(0);
        for (int at = 0; at < bytes.length; at += 20) {
            box.feed(intAt(bytes, at), intAt(bytes, at + 4), intAt(bytes, at + 8), intAt(bytes, at + 12), intAt(bytes, at + 16));
        }
        box.end(bytes.length);
    }

    /** A box with a full tape and a full result, all of it this index. */
    static LzwBox fullBox(int m, int index) {
        int[] all = new int[Model.MOST];
        Arrays.fill(all, index);
        LzwBox box = boxWith(Model.packed(all, m));
        box.unpack(m);
        box.again();
        return box;
    }

    static String mask(LzwBox box, int m) {
        box.mask(m);
        return "done";
    }

    /**
     * Tape and result. The tape shows only by packing it, which makes a new result: the box is not used behind this.
     */
    static String whole(LzwBox box) {
        String made = "result " + text(result(box)) + ", tape of " + box.count(0);
        if (box.count(0) == 0) {
            return made;
        }
        box.pack(8);
        return made + ", packed " + text(result(box));
    }

    static LzwBox boxWith(int... bytes) {
        LzwBox box = new LzwBox();
        put(box, bytes);
        return box;
    }

    /** The whole result, read by word(). */
    static int[] result(LzwBox box) {
        int[] bytes = new int[box.count(1)];
        for (int at = 0; at < bytes.length; at += 8) {
            long word = box.word(at);
            for (int k = 0; k < 8 && at + k < bytes.length; k++) {
                bytes[at + k] = (int) (word >>> 56 - 8 * k) & 0xFF;
            }
        }
        return bytes;
    }

    static String text(int... bytes) {
        StringBuilder text = new StringBuilder();
        for (int value : bytes) {
            text.append(value).append(' ');
        }
        return text.toString().trim();
    }

    /** Bytes of codes that are written as code, bits, code, bits, and so on. */
    static int[] codes(int... codesAndBits) {
        Bits bits = new Bits();
        for (int i = 0; i < codesAndBits.length; i += 2) {
            bits.add(codesAndBits[i], codesAndBits[i + 1]);
        }
        return bits.bytes();
    }

    /** Indices in an order that has no plan, always the same for the same seed. */
    static int[] indices(int length, int m, long seed) {
        int[] made = new int[length];
        long state = seed * 0x9E3779B97F4A7C15L + 1;
        for (int i = 0; i < length; i++) {
            state = state * 6364136223846793005L + 1442695040888963407L;
            made[i] = (int) (state >>> 40) & (1 << m) - 1;
        }
        return made;
    }
}
