import java.util.Arrays;

/** The section Terms, sentence by sentence: what may stand on a tape that is LZW, and what is BROKEN. */
public final class ReadingEdgesTest {
    private static final int FULL = 4096;

    public static void main(String[] args) {
        lowestFirst();
        bitsAtFirst();
        indices();
        beginsAnew();
        beginningMakesNoRow();
        end();
        endAlone();
        noEnd();
        cutEnd();
        newRows();
        rowItself();
        allNumbers();
        noRowYet();
        firstIsRow();
        noRowsOfEarlierCalls();
        bitsGrow();
        bitsGrowAsCounted();
        bitsStayTwelve();
        Check.finish();
    }

    private static void reads(String what, int m, int[] packed, int... want) {
        LzwBox box = Check.boxWith(packed);
        Check.due(what, () -> box.unpack(m), want.length);
        Check.same(what + ", indices", Check.text(Check.result(box)), Check.text(want));
    }

    /** Many indices: how many, and the last of them, eight at most, as a word. */
    private static void readsMany(String what, int m, int[] packed, int howMany, int... last) {
        LzwBox box = Check.boxWith(packed);
        Check.due(what, () -> box.unpack(m), howMany);
        long word = 0;
        for (int k = 0; k < 8; k++) {
            word = word << 8 | (k < last.length ? last[k] : 0);
        }
        long due = word;
        Check.due(what + ", the last", () -> box.word(howMany - last.length), due);
    }

    private static void breaks(String what, int m, int... packed) {
        LzwBox box = Check.boxWith(packed);
        Check.due(what, () -> box.unpack(m), Check.BROKEN);
    }

    /** So many codes behind a beginning, and the next one has one bit more than these. */
    private static int codesOf(int m, int bits) {
        return (1 << bits) - (1 << m) - 1;
    }

    private static Stream ones(int m, int howMany) {
        return new Stream(m).begin().times(howMany, 1);
    }

    private static void lowestFirst() {
        Check.about("codes of bits, the lowest first");
        reads("three bits each", 2, new int[] {0x5C, 0x01}, 3);
        reads("nine bits each", 8, new int[] {0x00, 0x57, 0x05, 0x04}, 171);
        reads("seven bits each", 6, new Stream(6).begin().code(33, 30, 1, 62, 66).end().bytes(), 33, 30, 1, 62, 33, 30);
        // 12 bits that begin with a byte's last bit lie in three bytes.
        for (int singles = 3838; singles <= 3846; singles++) {
            readsMany("twelve bits behind " + singles, 8, ones(8, singles).code(2, 4093, 254).end().bytes(), singles + 4,
                    1, 1, 1, 1, 2, 1, 1, 254);
        }
    }

    private static void bitsAtFirst() {
        Check.about("m + 1 bits at first (as behind a beginning, whether there is one or not)");
        for (int m = 2; m <= 8; m++) {
            int end = (1 << m) + 1;
            reads("with, m " + m, m, Check.codes(1 << m, m + 1, 1, m + 1, end, m + 1), 1);
            reads("without, m " + m, m, Check.codes(1, m + 1, end, m + 1), 1);
            int codes = codesOf(m, m + 1);
            readsMany("without, bits grow, m " + m, m, new Stream(m).times(codes, 1).code(0).end().bytes(), codes + 1, 0);
            readsMany("with, bits grow, m " + m, m, ones(m, codes).code(0).end().bytes(), codes + 1, 0);
        }
    }

    private static void indices() {
        Check.about("below 2^m an index");
        for (int m = 2; m <= 8; m++) {
            int most = (1 << m) - 1;
            reads("least and greatest, m " + m, m, new Stream(m).begin().code(0, most, most - 1, 0).end().bytes(),
                    0, most, most - 1, 0);
        }
    }

    private static void beginsAnew() {
        Check.about("2^m: all begins anew (codes of m + 1 bits, no rows)");
        for (int m = 2; m <= 8; m++) {
            int row = (1 << m) + 2;
            for (int bits = m; bits <= 12; bits++) {
                int codes = bits == m ? 1 : bits == 12 ? FULL : codesOf(m, bits);
                String what = "m " + m + " behind " + codes + " codes";
                readsMany(what, m, ones(m, codes).begin().code(2, row).end().bytes(), codes + 3, 2, 2, 2);
                breaks(what + ", an old row", m, ones(m, codes).begin().code(2, row + 1).end().bytes());
                breaks(what + ", an old row at first", m, ones(m, codes).begin().code(row).end().bytes());
                readsMany(what + ", twice", m, ones(m, codes).begin().begin().code(3).end().bytes(), codes + 1, 3);
            }
            reads("nothing but beginnings, m " + m, m, new Stream(m).begin().begin().begin().end().bytes());
            int again = codesOf(m, m + 1);
            readsMany("bits grow once more, m " + m, m, ones(m, again).begin().times(again, 0).code(2).end().bytes(),
                    2 * again + 1, 0, 2);
        }
    }

    private static void beginningMakesNoRow() {
        Check.about("behind each code but the first behind a beginning there is a new row");
        reads("row behind a beginning", 2, new Stream(2).code(1).begin().code(2, 6).end().bytes(), 1, 2, 2, 2);
        reads("row behind two codes", 2, new Stream(2).code(1, 3).begin().code(2, 0, 6, 7).end().bytes(),
                1, 3, 2, 0, 2, 0, 0, 2);
        reads("no beginning at first", 2, new Stream(2).code(2, 0, 6).end().bytes(), 2, 0, 2, 0);
    }

    private static void end() {
        Check.about("2^m + 1: the end (what is left of that byte, and bytes behind, count for nothing)");
        for (int m = 2; m <= 8; m++) {
            for (int bits = m; bits <= 12; bits++) {
                int codes = bits == m ? 1 : bits == 12 ? FULL : codesOf(m, bits);
                for (int more = 0; more < 8; more++) {
                    Stream stream = ones(m, codes + more).end();
                    String what = "m " + m + ", " + (codes + more) + " codes, left " + stream.left();
                    readsMany(what, m, stream.bytes(), codes + more, 1);
                    stream.raw(-1, stream.left());
                    readsMany(what + ", ones", m, stream.bytes(), codes + more, 1);
                    stream.raw(-1, 32);
                    readsMany(what + ", bytes", m, stream.bytes(), codes + more, 1);
                }
            }
        }
        Stream two = new Stream(2).begin().code(1).end();
        two.raw(0, two.left()).raw(4 | 2 << 3, 8).raw(5, 8);
        reads("another one behind", 2, two.bytes(), 1);
    }

    private static void endAlone() {
        Check.about("2^m + 1: the end");
        for (int m = 2; m <= 8; m++) {
            reads("at once, m " + m, m, new Stream(m).end().bytes());
            reads("behind a beginning, m " + m, m, new Stream(m).begin().end().bytes());
        }
    }

    private static void noEnd() {
        Check.about("without it: BROKEN");
        for (int m = 2; m <= 8; m++) {
            breaks("nothing, m " + m, m);
            breaks("zeros, m " + m, m, new int[9]);
            breaks("a beginning, m " + m, m, new Stream(m).begin().bytes());
            for (int codes = 1; codes <= 40; codes++) {
                breaks(codes + " codes, m " + m, m, ones(m, codes).bytes());
            }
            breaks("4096 codes, m " + m, m, ones(m, FULL).bytes());
        }
        breaks("one byte less than a code has", 8, 0xFF);
    }

    private static void cutEnd() {
        Check.about("also if the last code is cut: BROKEN");
        for (int m = 2; m <= 8; m++) {
            for (int codes = 0; codes <= 60; codes++) {
                cutByAByte(m, codes);
            }
            for (int more = 0; more < 8; more++) {
                cutByAByte(m, FULL + more);
            }
        }
        // The last bit of the end is a 0 here: zeros behind the tape must not be taken for it.
        breaks("only a 0 is missing", 2, Check.codes(1, 3, 2, 3, 3, 3, 0, 4, 5, 3));
    }

    private static void cutByAByte(int m, int codes) {
        int[] whole = ones(m, codes).end().bytes();
        LzwBox box = Check.boxWith(whole);
        Check.due("whole, m " + m + ", " + codes, () -> box.unpack(m), codes);
        breaks("cut, m " + m + ", " + codes, m, Arrays.copyOf(whole, whole.length - 1));
    }

    private static void newRows() {
        Check.about("a new row: that of the code before, and the first index of this one");
        reads("rows of rows", 3, new Stream(3).begin().code(1, 2, 3, 10, 11, 13, 14, 12).end().bytes(),
                1, 2, 3, 1, 2, 2, 3, 1, 2, 2, 2, 3, 1, 3, 1);
        reads("of a row and an index", 2, new Stream(2).code(0, 1, 6, 3, 8).end().bytes(), 0, 1, 0, 1, 3, 0, 1, 3);
    }

    private static void rowItself() {
        Check.about("(that row may be this one itself)");
        for (int m = 2; m <= 8; m++) {
            int row = (1 << m) + 2;
            reads("second code, m " + m, m, new Stream(m).begin().code(1, row).end().bytes(), 1, 1, 1);
            reads("each code, m " + m, m, new Stream(m).code(2, row, row + 1, row + 2).end().bytes(),
                    2, 2, 2, 2, 2, 2, 2, 2, 2, 2);
            reads("of a longer row, m " + m, m, new Stream(m).code(1, 2, row, row + 2).end().bytes(), 1, 2, 1, 2, 1, 2, 1);
            for (int bits = m + 1; bits <= 12; bits++) {
                int newest = (1 << bits) - 1;
                int before = codesOf(m, bits) - 2;
                readsMany("greatest of " + bits + " bits, m " + m, m, ones(m, before).code(0, newest).end().bytes(),
                        before + 3, 1, 0, 0, 0);
            }
            for (int bits = m + 1; bits <= 11; bits++) {
                int before = codesOf(m, bits) - 1;
                readsMany("first behind " + bits + " bits, m " + m, m, ones(m, before).code(0, 1 << bits).end().bytes(),
                        before + 3, 1, 0, 0, 0);
            }
        }
    }

    private static void allNumbers() {
        Check.about("4096 in all, then no new ones");
        for (int m = 2; m <= 8; m++) {
            int codes = 4095 - (1 << m);
            readsMany("the last row, m " + m, m, ones(m, codes - 1).code(0, 4095).end().bytes(), codes + 2, 1, 0, 1, 0);
            readsMany("it stays, m " + m, m, ones(m, codes - 1).code(0, 2, 3, 2, 3, 4095, 4094).end().bytes(),
                    codes + 8, 2, 3, 2, 3, 1, 0, 1, 1);
            int row = (1 << m) + 2;
            readsMany("and the first row, m " + m, m, ones(m, codes).code(2, 3, 2, 3, row, row + 1).end().bytes(),
                    codes + 8, 2, 3, 2, 3, 1, 1, 1, 1);
        }
    }

    private static void noRowYet() {
        Check.about("A code that is no row yet: BROKEN");
        for (int m = 2; m <= 8; m++) {
            for (int codes = 1; codes <= 12; codes++) {
                notYet(m, codes);
            }
            for (int bits = m + 1; bits <= 11; bits++) {
                for (int codes = codesOf(m, bits) - 2; codes <= codesOf(m, bits) + 1; codes++) {
                    notYet(m, codes);
                }
            }
            notYet(m, codesOf(m, 12) - 2);
        }
    }

    /** Behind so many codes the newest row that may be named, the number behind it, and the greatest number. */
    private static void notYet(int m, int codes) {
        int newest = (1 << m) + 1 + codes;
        int greatest = (1 << ones(m, codes).width()) - 1;
        String what = "m " + m + ", behind " + codes + " codes";
        readsMany(what, m, ones(m, codes).code(newest).end().bytes(), codes + 2, 1, 1);
        if (newest < greatest) {
            breaks(what + ", one more", m, ones(m, codes).code(newest + 1).end().bytes());
            breaks(what + ", greatest", m, ones(m, codes).code(greatest).end().bytes());
        }
    }

    private static void firstIsRow() {
        Check.about("also if the first one behind a beginning is a row");
        for (int m = 2; m <= 8; m++) {
            for (int row = (1 << m) + 2; row < 2 << m; row++) {
                breaks("m " + m + ", " + row, m, new Stream(m).begin().code(row).end().bytes());
                breaks("m " + m + ", " + row + ", no beginning", m, new Stream(m).code(row).end().bytes());
                breaks("m " + m + ", " + row + ", it was one", m, ones(m, 2 << m).begin().code(row).end().bytes());
            }
        }
    }

    private static void noRowsOfEarlierCalls() {
        Check.about("m + 1 bits at first (each call has bits and rows of its own)");
        for (int m = 2; m <= 8; m++) {
            int width = m;
            int row = (1 << m) + 2;
            for (int before = 2; before <= 8; before++) {
                LzwBox box = Check.boxWith(ones(before, 700).end().bytes());
                Check.same("before, m " + before, box.unpack(before), 700);
                Check.put(box, new Stream(m).code(row).end().bytes());
                Check.due("a row at first, m " + m, () -> box.unpack(width), Check.BROKEN);
                Check.put(box, new Stream(m).code(2, row + 1).end().bytes());
                Check.due("an old row, m " + m, () -> box.unpack(width), Check.BROKEN);
                Check.put(box, new Stream(m).code(2, row).end().bytes());
                Check.due("a new row, m " + m, () -> box.unpack(width), 3);
                Check.due("a new row, indices, m " + m, () -> box.word(0), 0x0202020000000000L);
            }
        }
    }

    private static void bitsGrow() {
        Check.about("If the next row's number is 2^(bits), bits is one more");
        for (int m = 2; m <= 8; m++) {
            for (int bits = m + 1; bits <= 11; bits++) {
                for (int codes = codesOf(m, bits) - 2; codes <= codesOf(m, bits) + 2; codes++) {
                    String what = "m " + m + ", " + codes + " codes";
                    readsMany(what, m, ones(m, codes).end().bytes(), codes, 1);
                    readsMany(what + " and more", m, ones(m, codes).code(3, 0, 2).end().bytes(), codes + 3, 3, 0, 2);
                }
            }
        }
    }

    /** The same with the numbers written out, so that it does not hang on how Stream counts. */
    private static void bitsGrowAsCounted() {
        grownAt(2, 3, 11, 27, 59, 123, 251, 507, 1019, 2043);
        grownAt(5, 31, 95, 223, 479, 991, 2015);
        grownAt(8, 255, 767, 1791);
    }

    private static void grownAt(int m, int... codes) {
        Bits bits = new Bits().add(1 << m, m + 1);
        int width = m + 1;
        int next = 0;
        int howMany = 2100;
        for (int code = 0; code < howMany; code++) {
            if (next < codes.length && code == codes[next]) {
                width++;
                next++;
            }
            bits.add(code % 3, width);
        }
        Check.same("bits in the end, m " + m, width, 12);
        bits.add((1 << m) + 1, width);
        readsMany("m " + m, m, bits.bytes(), howMany, 0, 1, 2);
    }

    private static void bitsStayTwelve() {
        Check.about("up to 12");
        for (int m = 2; m <= 8; m++) {
            for (int codes = codesOf(m, 12) - 1; codes <= codesOf(m, 12) + 2; codes++) {
                readsMany("m " + m + ", " + codes, m, ones(m, codes).code(0, 3).end().bytes(), codes + 2, 0, 3);
            }
            readsMany("m " + m + ", many", m, ones(m, 6000).code(2, 0).end().bytes(), 6002, 1, 2, 0);
        }
    }
}
