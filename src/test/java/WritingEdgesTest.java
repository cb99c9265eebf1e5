import java.util.Arrays;
import java.util.HashSet;
import java.util.Set;

/** The paragraph WRITTEN, phrase by phrase, with the codes that are due written by hand. */
public final class WritingEdgesTest {
    public static void main(String[] args) {
        beginning();
        noRowsOfEarlierCalls();
        longestRow();
        newRow();
        lastRowIsNotMade();
        beginningBehindLastRow();
        lastRowIsNextCode();
        secondBeginning();
        bitsAsReading();
        restIsZero();
        Check.finish();
    }

    private static void writes(String what, int m, int[] indices, Stream want) {
        LzwBox box = Check.boxWith(indices);
        writesOn(box, what, m, want);
    }

    /** All of a short result, of a long one the words at both ends and some between. */
    private static void writesOn(LzwBox box, String what, int m, Stream want) {
        int[] bytes = want.bytes();
        Check.due(what, () -> box.pack(m), bytes.length);
        int step = Math.max(8, bytes.length / 20);
        for (int at = 0; at < bytes.length; at += step) {
            int here = at;
            Check.due(what + ", at " + at, () -> box.word(here), wordAt(bytes, at));
        }
        int last = Math.max(0, bytes.length - 8);
        Check.due(what + ", the last", () -> box.word(last), wordAt(bytes, last));
    }

    private static long wordAt(int[] bytes, int at) {
        return (long) Check.intAt(bytes, at) << 32 | Check.intAt(bytes, at + 4) & 0xFFFFFFFFL;
    }

    /** Indices below 2^m in an order in which no two neighbours come twice: a code for each. */
    private static int[] apart(int m, int length) {
        int[] made = new int[length];
        int at = 0;
        for (int a = 0; a < 1 << m; a++) {
            for (int b = a + 1; b < 1 << m && at < length; b++) {
                made[at++] = a;
                if (at < length) {
                    made[at++] = b;
                }
            }
        }
        Check.same("so many indices apart, m " + m, at, length);
        return made;
    }

    private static void beginning() {
        Check.about("WRITTEN: a beginning");
        for (int m = 2; m <= 8; m++) {
            int most = (1 << m) - 1;
            writes("m " + m, m, new int[] {most}, new Stream(m).begin().code(most).end());
            writes("zero, m " + m, m, new int[] {0}, new Stream(m).begin().code(0).end());
        }
    }

    private static void noRowsOfEarlierCalls() {
        Check.about("WRITTEN: a beginning (each call has rows of its own)");
        for (int m = 2; m <= 8; m++) {
            LzwBox box = Check.boxWith(new int[40]);
            box.pack(m);
            Check.put(box, 1, 2, 1, 2, 1);
            writesOn(box, "behind another one, m " + m, m, new Stream(m).begin().code(1, 2, (1 << m) + 2, 1).end());
            Check.put(box, 0, 0);
            writesOn(box, "behind two, m " + m, m, new Stream(m).begin().code(0, 0).end());
        }
    }

    private static void longestRow() {
        Check.about("each time the longest row, its code");
        for (int m = 2; m <= 8; m++) {
            int row = (1 << m) + 2;
            writes("all alike, m " + m, m, new int[6], new Stream(m).begin().code(0, row, row + 1).end());
            writes("all alike, some left, m " + m, m, new int[8], new Stream(m).begin().code(0, row, row + 1, row).end());
            writes("this one itself, m " + m, m, new int[] {1, 2, 1, 2, 1, 2, 1},
                    new Stream(m).begin().code(1, 2, row, row + 2).end());
            // 1 2, 1 2 3 and 1 2 3 0 are rows when the last code is due, and the longest of them is taken.
            writes("longest of three, m " + m, m, new int[] {1, 2, 1, 2, 3, 1, 2, 3, 0, 1, 2, 3, 0},
                    new Stream(m).begin().code(1, 2, row, 3, row + 2, 0, row + 4).end());
        }
        writes("rows that begin alike", 2, new int[] {1, 2, 1, 3, 1, 2, 1, 3, 1, 2},
                new Stream(2).begin().code(1, 2, 1, 3, 6, 8, 6).end());
        writes("the greatest index is not the least", 8, new int[] {255, 255, 255, 0, 255, 255},
                new Stream(8).begin().code(255, 258, 0, 258).end());
    }

    private static void newRow() {
        Check.about("then a new row");
        writes("the code's row and the next index", 2, new int[] {1, 2, 1, 2, 3, 1, 2, 3},
                new Stream(2).begin().code(1, 2, 6, 3, 8).end());
        writes("not of the code before", 2, new int[] {1, 2, 3, 2, 3, 1, 2},
                new Stream(2).begin().code(1, 2, 3, 7, 6).end());
    }

    /** So many codes behind a beginning, and the row that is made behind the last of them is number 4095. */
    private static int codesToLastRow(int m) {
        return 4094 - (1 << m);
    }

    private static void lastRowIsNotMade() {
        Check.about("then a new row; if that is number 4095 (nothing follows, so it is not made)");
        for (int m = 6; m <= 8; m++) {
            int codes = codesToLastRow(m);
            writes("m " + m, m, apart(m, codes), new Stream(m).begin().code(apart(m, codes)).end());
            writes("one before, m " + m, m, apart(m, codes - 1), new Stream(m).begin().code(apart(m, codes - 1)).end());
        }
    }

    private static void beginningBehindLastRow() {
        Check.about("if that is number 4095, a beginning behind the next code, whatever follows (also just the end)");
        for (int m = 6; m <= 8; m++) {
            int codes = codesToLastRow(m) + 1;
            int[] before = apart(m, codes);
            writes("just the end, m " + m, m, before, new Stream(m).begin().code(before).begin().end());
            int[] all = apart(m, codes + 1);
            int last = all[codes];
            writes("one index, m " + m, m, all, new Stream(m).begin().code(before).begin().code(last).end());
            int[] more = Arrays.copyOf(all, codes + 6);
            Arrays.fill(more, codes, codes + 6, last);
            int row = (1 << m) + 2;
            writes("rows anew, m " + m, m, more, new Stream(m).begin().code(before).begin().code(last, row, row + 1).end());
            int[] repeated = Arrays.copyOf(all, codes + 3);
            repeated[codes + 1] = all[0];
            repeated[codes + 2] = all[1];
            writes("old rows are gone, m " + m, m, repeated,
                    new Stream(m).begin().code(before).begin().code(last, all[0], all[1]).end());
            rowsDoNotGoOn(m, before, last);
        }
    }

    /** The code before the beginning and the index behind it make no row. */
    private static void rowsDoNotGoOn(int m, int[] before, int next) {
        int codes = before.length;
        int old = before[codes - 1];
        int other = 5;
        Check.same("three indices, m " + m, old != next && next != other && old != other, true);
        int[] indices = Arrays.copyOf(before, codes + 4);
        int[] behind = {next, other, old, other};
        System.arraycopy(behind, 0, indices, codes, 4);
        writes("no row over the beginning, m " + m, m, indices,
                new Stream(m).begin().code(before).begin().code(behind).end());
    }

    private static void lastRowIsNextCode() {
        Check.about("a beginning behind the next code (which is row 4095 itself)");
        for (int m = 6; m <= 8; m++) {
            int codes = codesToLastRow(m);
            int[] indices = Arrays.copyOf(apart(m, codes), codes + 2);
            int last = indices[codes - 1];
            indices[codes] = last;
            indices[codes + 1] = last;
            writes("m " + m, m, indices, new Stream(m).begin().code(apart(m, codes)).code(4095).begin().end());
            int[] one = Arrays.copyOf(indices, codes + 3);
            one[codes + 2] = last;
            writes("and one more, m " + m, m, one,
                    new Stream(m).begin().code(apart(m, codes)).code(4095).begin().code(last).end());
        }
    }

    private static void secondBeginning() {
        Check.about("if that is number 4095, a beginning behind the next code (each time)");
        for (int m = 7; m <= 8; m++) {
            int codes = codesToLastRow(m) + 1;
            for (int length = 2 * codes - 1; length <= 2 * codes + 1; length++) {
                int[] all = apart(m, length);
                Stream want = new Stream(m).begin();
                for (int i = 0; i < length; i++) {
                    want.code(all[i]);
                    if ((i + 1) % codes == 0) {
                        want.begin();
                    }
                }
                writes("m " + m + ", length " + length, m, all, want.end());
            }
        }
    }

    private static void bitsAsReading() {
        Check.about("each code in as many bits as reading has then");
        for (int m = 2; m <= 8; m++) {
            for (int bits = m + 1; bits <= 11; bits++) {
                int edge = (1 << bits) - (1 << m) - 1;
                for (int codes = edge - 1; codes <= edge + 2; codes++) {
                    if (m >= 6) {
                        writes("m " + m + ", " + codes, m, apart(m, codes), new Stream(m).begin().code(apart(m, codes)).end());
                    }
                    if (codes > 0 && codes < 130) {
                        growing(m, codes);
                    }
                }
            }
        }
    }

    /** One index again and again: each code is the newest row, one longer than the one before. */
    private static void growing(int m, int codes) {
        int[] alike = new int[codes * (codes + 1) / 2];
        Arrays.fill(alike, 3);
        Stream want = new Stream(m).begin().code(3);
        for (int code = 1; code < codes; code++) {
            want.code((1 << m) + 1 + code);
        }
        writes("m " + m + ", growing, " + codes, m, alike, want.end());
    }

    private static void restIsZero() {
        Check.about("what is left of the last byte is 0");
        Set<Integer> seen = new HashSet<>();
        for (int m = 2; m <= 8; m++) {
            for (int length = 1; length <= 12; length++) {
                Stream want = new Stream(m).begin().code(apart(m, length)).end();
                seen.add(want.left());
                LzwBox box = boxThatHeldOnes();
                Check.put(box, apart(m, length));
                writesOn(box, "m " + m + ", length " + length, m, want);
            }
        }
        Check.same("so many numbers of bits were left", seen.size(), 8);
    }

    /** Its results were ones alone, so that what is not written again would show. */
    private static LzwBox boxThatHeldOnes() {
        LzwBox box = new LzwBox();
        for (int time = 0; time < 3; time++) {
            Check.put(box, new Stream(8).times(40, 255).end().bytes());
            Check.due("forty ones", () -> box.unpack(8), 40);
        }
        return box;
    }
}
