import java.util.ArrayList;
import java.util.Arrays;
import java.util.HashMap;
import java.util.List;
import java.util.Map;

/** The document once more, written another way: whole rows as texts, widths from the numbers alone. */
final class Model {
    static final int MOST = 16384;

    int[] tape = new int[0];
    int[] result = new int[0];

    int feed(int... five) {
        if (tape.length + 20 > MOST) {
            throw new IndexOutOfBoundsException();
        }
        int[] longer = Arrays.copyOf(tape, tape.length + 20);
        for (int i = 0; i < 20; i++) {
            longer[tape.length + i] = five[i / 4] >> 24 - i % 4 * 8 & 0xFF;
        }
        tape = longer;
        return tape.length;
    }

    int end(int n) {
        if (n < 0 || n > tape.length) {
            throw new IllegalArgumentException();
        }
        tape = Arrays.copyOf(tape, n);
        return n;
    }

    int again() {
        tape = result.clone();
        return tape.length;
    }

    int unpack(int m) {
        checkM(m);
        int[] packed = tape;
        tape = new int[0];
        result = unpacked(packed, m);
        return result.length;
    }

    int pack(int m) {
        checkM(m);
        if (tape.length == 0) {
            throw new UnsupportedOperationException();
        }
        for (int index : tape) {
            if (index >> m != 0) {
                throw new UnsupportedOperationException();
            }
        }
        int[] packed = packed(tape, m);
        if (packed.length > MOST) {
            throw new IndexOutOfBoundsException();
        }
        result = packed;
        return result.length;
    }

    String mask(int m) {
        checkM(m);
        for (int i = 0; i < tape.length; i++) {
            tape[i] %= 1 << m;
        }
        return "done";
    }

    long word(int i) {
        if (i < 0 || i >= result.length) {
            throw new IndexOutOfBoundsException();
        }
        long made = 0;
        for (int k = i; k < i + 8; k++) {
            made = made * 256 + (k < result.length ? result[k] : 0);
        }
        return made;
    }

    int count(int what) {
        if (what != 0 && what != 1) {
            throw new IllegalArgumentException();
        }
        return what == 0 ? tape.length : result.length;
    }

    private static void checkM(int m) {
        if (m < 2 || m > 8) {
            throw new IllegalArgumentException();
        }
    }

    /** The bits a reader has that has read so many codes behind a beginning. */
    static int width(int m, int codesRead) {
        int next = nextRow(m, codesRead);
        return Math.min(12, 32 - Integer.numberOfLeadingZeros(next));
    }

    static int nextRow(int m, int codesRead) {
        return Math.min(4096, (1 << m) + 2 + Math.max(0, codesRead - 1));
    }

    static int[] unpacked(int[] packed, int m) {
        StringBuilder made = new StringBuilder();
        List<String> rows = freshRows(m);
        String before = null;
        int read = 0;
        int at = 0;
        while (true) {
            int bits = width(m, read);
            if (at + bits > packed.length * 8) {
                throw new UnsupportedOperationException();
            }
            int code = 0;
            for (int k = 0; k < bits; k++, at++) {
                code |= (packed[at / 8] >> at % 8 & 1) << k;
            }
            if (code == (1 << m) + 1) {
                return made.chars().toArray();
            }
            if (code == 1 << m) {
                rows = freshRows(m);
                before = null;
                read = 0;
                continue;
            }
            String row;
            if (code < rows.size()) {
                row = rows.get(code);
            } else if (code == rows.size() && before != null) {
                row = before + before.charAt(0);
            } else {
                throw new UnsupportedOperationException();
            }
            if (before != null && rows.size() < 4096) {
                rows.add(before + row.charAt(0));
            }
            made.append(row);
            if (made.length() > MOST) {
                throw new IndexOutOfBoundsException();
            }
            before = row;
            read++;
        }
    }

    private static List<String> freshRows(int m) {
        List<String> rows = new ArrayList<>();
        for (int i = 0; i < 1 << m; i++) {
            rows.add(String.valueOf((char) i));
        }
        rows.add(null);
        rows.add(null);
        return rows;
    }

    static int[] packed(int[] indices, int m) {
        Bits bits = new Bits().add(1 << m, m + 1);
        String all = new String(indices, 0, indices.length);
        Map<String, Integer> rows = new HashMap<>();
        int written = 0;
        int at = 0;
        while (at < all.length()) {
            int to = at + 1;
            while (to < all.length() && rows.containsKey(all.substring(at, to + 1))) {
                to++;
            }
            int code = to == at + 1 ? all.charAt(at) : rows.get(all.substring(at, to));
            bits.add(code, width(m, written));
            written++;
            int number = (1 << m) + 2 + rows.size();
            if (number > 4095) {
                bits.add(1 << m, width(m, written));
                rows.clear();
                written = 0;
            } else if (to < all.length()) {
                rows.put(all.substring(at, to + 1), number);
            }
            at = to;
        }
        return bits.add((1 << m) + 1, width(m, written)).bytes();
    }
}
