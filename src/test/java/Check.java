/** What the tests share: comparing answers, filling a box, and writing codes by hand. */
final class Check {
    interface Call {
        Object answer();
    }

    static final String ILLEGAL = "throws.IllegalArgumentException";
    static final String BROKEN = "throws.UnsupportedOperationException";
    static final String OUTSIDE = "throws.IndexOutOfBoundsException";

    private static int wrong = 0;

    private Check() {
    }

    /** The answer as text, or throws.Name if the call throws just that. */
    static String told(Call call) {
        try {
            return String.valueOf(call.answer());
        } catch (RuntimeException e) {
            return "throws." + e.getClass().getSimpleName();
        }
    }

    static void due(String what, Call call, Object want) {
        same(what, told(call), String.valueOf(want));
    }

    static void same(String what, Object got, Object want) {
        if (!String.valueOf(got).equals(String.valueOf(want))) {
            wrong++;
            System.out.println(what + ": answered " + got + ", due is " + want);
        }
    }

    static void finish() {
        System.out.println(wrong == 0 ? "all answers are as due" : wrong + " answers are not as due");
        if (wrong != 0) {
            System.exit(1);
        }
    }

    static int intAt(int[] bytes, int at) {
        int four = 0;
        for (int k = 0; k < 4; k++) {
            four = four << 8 | (at + k < bytes.length ? bytes[at + k] : 0);
        }
        return four;
    }

    /** Puts these bytes alone on the tape. */
    static void put(LzwBox box, int... bytes) {
        box.end(0);
        for (int at = 0; at < bytes.length; at += 20) {
            box.feed(intAt(bytes, at), intAt(bytes, at + 4), intAt(bytes, at + 8), intAt(bytes, at + 12), intAt(bytes, at + 16));
        }
        box.end(bytes.length);
    }

    static LzwBox boxWith(int... bytes) {
        LzwBox box = new LzwBox();
        put(box, bytes);
        return box;
    }

    /** The whole result, read by word(). */
    static int[] result(LzwBox box) {
        int[] bytes = new int[box.count(1)];
        for (int at = 0; at < bytes.length; at += 8) {
            long word = box.word(at);
            for (int k = 0; k < 8 && at + k < bytes.length; k++) {
                bytes[at + k] = (int) (word >>> 56 - 8 * k) & 0xFF;
            }
        }
        return bytes;
    }

    static String text(int... bytes) {
        StringBuilder text = new StringBuilder();
        for (int value : bytes) {
            text.append(value).append(' ');
        }
        return text.toString().trim();
    }

    /** Bytes of codes that are written as code, bits, code, bits, and so on. */
    static int[] codes(int... codesAndBits) {
        Bits bits = new Bits();
        for (int i = 0; i < codesAndBits.length; i += 2) {
            bits.add(codesAndBits[i], codesAndBits[i + 1]);
        }
        return bits.bytes();
    }

    static int[] indices(int length, int m, long seed) {
        int[] made = new int[length];
        long state = seed * 0x9E3779B97F4A7C15L + 1;
        for (int i = 0; i < length; i++) {
            state = state * 6364136223846793005L + 1442695040888963407L;
            made[i] = (int) (state >>> 40) & (1 << m) - 1;
        }
        return made;
    }
}
