import java.util.Arrays;
import java.util.HashSet;
import java.util.Set;

/** Promises 6 and 8: pack, and word on what it made. */
public final class PackTest {
    public static void main(String[] args) {
        ordinary();
        growingBits();
        fullTable();
        thereAndBack();
        atTheLimit();
        noIndices();
        wrongM();
        word();
        Check.finish();
    }

    private static void writes(String what, int m, int[] indices, int[] want) {
        LzwBox box = Check.boxWith(indices);
        Check.due(what, () -> box.pack(m), want.length);
        Check.same(what + ": bytes", Check.text(Check.result(box)), Check.text(want));
        Check.due(what + ": tape", () -> box.count(0), indices.length);
    }

    private static void ordinary() {
        writes("one index", 2, new int[] {3}, Check.codes(4, 3, 3, 3, 5, 3));
        writes("two indices", 2, new int[] {3, 1}, Check.codes(4, 3, 3, 3, 1, 3, 5, 3));
        writes("three indices", 2, new int[] {3, 1, 2}, Check.codes(4, 3, 3, 3, 1, 3, 2, 3, 5, 4));
        writes("the row that is this one", 2, new int[] {1, 1, 1}, Check.codes(4, 3, 1, 3, 6, 3, 5, 3));
        writes("rows", 2, new int[] {1, 2, 1, 2, 1, 2, 1}, Check.codes(4, 3, 1, 3, 2, 3, 6, 3, 8, 4, 5, 4));
        writes("the longest row", 2, new int[] {0, 0, 0, 0, 0, 0}, Check.codes(4, 3, 0, 3, 6, 3, 7, 3, 5, 4));
        writes("m = 8", 8, new int[] {255, 0, 255, 0}, Check.codes(256, 9, 255, 9, 0, 9, 258, 9, 257, 9));
        writes("no bits left", 7, new int[] {9}, Check.codes(128, 8, 9, 8, 129, 8));
        writes("sample image", 2, sampleImage(), new int[] {0x8C, 0x2D, 0x99, 0x87, 0x2A, 0x1C, 0xDC, 0x33, 0xA0, 0x02,
            0x75, 0xEC, 0x95, 0xFA, 0xA8, 0xDE, 0x60, 0x8C, 0x04, 0x91, 0x4C, 0x01});
    }

    private static int[] sampleImage() {
        String rows = "1111122222" + "1111122222" + "1111122222" + "1110000222" + "1110000222"
                + "2220000111" + "2220000111" + "2222211111" + "2222211111" + "2222211111";
        return rows.chars().map(c -> c - '0').toArray();
    }

    /** Bytes of which no two neighbours come twice: a code for each. */
    private static int[] pairs(int length) {
        int[] made = new int[length];
        int at = 0;
        for (int a = 0; a < 256; a++) {
            for (int b = a + 1; b < 256 && at + 1 < length; b++) {
                made[at++] = a;
                made[at++] = b;
            }
        }
        return made;
    }

    private static void growingBits() {
        for (int m = 2; m <= 8; m++) {
            int[] all = Check.indices(700, m, m);
            for (int length = 1; length <= 700; length += length < 40 ? 1 : 37) {
                int[] some = Arrays.copyOf(all, length);
                writes("m " + m + ", length " + length, m, some, Model.packed(some, m));
            }
        }
    }

    /** Around the code behind which a beginning stands, whatever follows. */
    private static void fullTable() {
        for (int m = 3; m <= 8; m++) {
            int[] all = Check.indices(16384, m, 77 + m);
            int last = lengthOfCodes(all, m, 4095 - (1 << m));
            for (int length = last - 3; length <= last + 3; length++) {
                int[] some = Arrays.copyOf(all, length);
                LzwBox box = boxWithMany(m, some);
                int[] want = Model.packed(some, m);
                String what = "full, m " + m + ", length " + length;
                int width = m;
                Check.due(what, () -> box.pack(width), want.length);
                Check.due(what + ": last bytes", () -> box.word(want.length - 8), longAt(want, want.length - 8));
            }
            endBehindBeginning(m, Arrays.copyOf(all, last));
        }
    }

    /** Where feeding would take too many calls, the indices come to the tape by their codes. */
    private static LzwBox boxWithMany(int m, int[] indices) {
        if (m > 5) {
            return Check.boxWith(indices);
        }
        LzwBox box = Check.boxWith(Model.packed(indices, m));
        box.unpack(m);
        box.again();
        return box;
    }

    private static long longAt(int[] bytes, int at) {
        return (long) Check.intAt(bytes, at) << 32 | Check.intAt(bytes, at + 4) & 0xFFFFFFFFL;
    }

    /** Counted without the model: the codes in their bits, the beginning in 12, and the end as behind a beginning. */
    private static void endBehindBeginning(int m, int[] indices) {
        LzwBox box = boxWithMany(m, indices);
        int bits = m + 1 + 12 + m + 1;
        int width = m + 1;
        for (int code = 1; code <= 4095 - (1 << m); code++) {
            bits += width;
            if ((1 << m) + 1 + code == 1 << width && width < 12) {
                width++;
            }
        }
        Check.same("just the end behind the beginning, m " + m, box.pack(m), (bits + 7) / 8);
    }

    /** How many of the indices the first codes behind a beginning take. */
    private static int lengthOfCodes(int[] indices, int m, int codes) {
        Set<String> rows = new HashSet<>();
        String all = new String(indices, 0, indices.length);
        int at = 0;
        for (int code = 0; code < codes; code++) {
            int to = at + 1;
            while (rows.contains(all.substring(at, to + 1))) {
                to++;
            }
            rows.add(all.substring(at, to + 1));
            at = to;
        }
        return at;
    }

    private static void thereAndBack() {
        for (int m = 2; m <= 8; m++) {
            int[] indices = m == 8 ? pairs(6000) : Check.indices(6000, m, 5);
            LzwBox box = Check.boxWith(indices);
            int width = m;
            int[] packed = Model.packed(indices, m);
            Check.due("there, m " + m, () -> box.pack(width), packed.length);
            box.again();
            Check.due("back, m " + m, () -> box.unpack(width), indices.length);
            for (int at = 0; at < indices.length; at += 47) {
                Check.same("back, m " + m + ", at " + at, box.word(at), longAt(indices, at));
            }
        }
    }

    /** Packed bytes packed once more are too many; cut where the document allows just so many. */
    private static void atTheLimit() {
        int[] first = Check.indices(9960, 8, 4);
        int[] second = Model.packed(first, 8);
        Set<Integer> seen = new HashSet<>();
        for (int length = second.length; length > 11000 && !seen.contains(16383); length--) {
            int due = Model.packed(Arrays.copyOf(second, length), 8).length;
            if (due <= 16390) {
                seen.add(due);
                packAtTheLimit(first, second, length, due);
            }
        }
        Check.same("the limit is met", seen.contains(16384), true);
        Check.same("the limit is passed by one", seen.contains(16385), true);
        tooManyLeavesTheResult(first, second);
    }

    private static void packAtTheLimit(int[] first, int[] second, int length, int due) {
        LzwBox box = Check.boxWith(first);
        box.pack(8);
        box.again();
        box.end(length);
        Check.due("at the limit", () -> box.pack(8), due > 16384 ? Check.OUTSIDE : due);
        Check.due("at the limit: result", () -> box.count(1), due > 16384 ? second.length : due);
        Check.due("at the limit: tape", () -> box.count(0), length);
    }

    private static void tooManyLeavesTheResult(int[] first, int[] second) {
        LzwBox box = Check.boxWith(first);
        box.pack(8);
        long before = box.word(0);
        long last = box.word(second.length - 8);
        box.again();
        Check.due("too many", () -> box.pack(8), Check.OUTSIDE);
        Check.due("too many: tape", () -> box.count(0), second.length);
        Check.due("too many: result", () -> box.count(1), second.length);
        Check.due("too many: first bytes", () -> box.word(0), before);
        Check.due("too many: last bytes", () -> box.word(second.length - 8), last);
        Check.due("too many: wide indices first", () -> box.pack(7), Check.BROKEN);
        box.end(1);
        Check.due("good again", () -> box.pack(8), 4);
    }

    private static void noIndices() {
        LzwBox box = Check.boxWith(1, 1, 1);
        box.pack(2);
        box.end(0);
        Check.due("nothing", () -> box.pack(2), Check.BROKEN);
        Check.due("nothing: result", () -> box.count(1), 2);
        for (int m = 2; m <= 7; m++) {
            int width = m;
            Check.put(box, 0, (1 << m) - 1);
            box.pack(m);
            int length = box.count(1);
            Check.put(box, 0, 1 << m);
            Check.due("too wide at the end, m " + m, () -> box.pack(width), Check.BROKEN);
            Check.put(box, 255, 0);
            Check.due("too wide at first, m " + m, () -> box.pack(width), Check.BROKEN);
            Check.due("too wide: result, m " + m, () -> box.count(1), length);
            Check.due("too wide: tape, m " + m, () -> box.count(0), 2);
        }
    }

    private static void wrongM() {
        LzwBox box = Check.boxWith(1, 1, 1);
        for (int m : new int[] {1, 9, 0, -1, 34, Integer.MIN_VALUE, Integer.MAX_VALUE}) {
            Check.due("m " + m, () -> box.pack(m), Check.ILLEGAL);
        }
        Check.due("m: tape", () -> box.count(0), 3);
        Check.due("m: result", () -> box.count(1), 0);
        Check.due("m: before an empty tape", () -> new LzwBox().pack(9), Check.ILLEGAL);
    }

    private static void word() {
        LzwBox box = Check.boxWith(0x81, 1, 2, 3, 4, 5, 6, 7, 0xFE);
        box.pack(8);
        box.again();
        box.unpack(8);
        Check.due("word 0", () -> box.word(0), 0x8101020304050607L);
        Check.due("word 1", () -> box.word(1), 0x01020304050607FEL);
        Check.due("word 2: zeros behind", () -> box.word(2), 0x020304050607FE00L);
        Check.due("word 8: the last", () -> box.word(8), 0xFE00000000000000L);
        Check.due("word 9", () -> box.word(9), Check.OUTSIDE);
        Check.due("word -1", () -> box.word(-1), Check.OUTSIDE);
        Check.due("word least", () -> box.word(Integer.MIN_VALUE), Check.OUTSIDE);
        Check.due("word greatest", () -> box.word(Integer.MAX_VALUE), Check.OUTSIDE);
        Check.put(box, 1);
        Check.due("shorter result", () -> box.pack(2), 2);
        Check.due("zeros behind, not what was there", () -> box.word(0), 0x4C01000000000000L);
        Check.due("word behind the shorter result", () -> box.word(2), Check.OUTSIDE);
    }
}
