/** Promise 5: unpack. */
public final class UnpackTest {
    public static void main(String[] args) {
        ordinary();
        beginningsAndEnds();
        broken();
        growingBits();
        fullTable();
        tooMany();
        whatThrowsLeaves();
        wrongM();
        Check.finish();
    }

    private static void reads(String what, int m, int[] packed, String want) {
        LzwBox box = Check.boxWith(packed);
        int length = want.isEmpty() ? 0 : want.split(" ").length;
        Check.due(what, () -> box.unpack(m), length);
        Check.same(what + ": indices", Check.text(Check.result(box)), want);
        Check.due(what + ": tape", () -> box.count(0), 0);
    }

    private static void breaks(String what, int m, int... packed) {
        LzwBox box = Check.boxWith(packed);
        Check.due(what, () -> box.unpack(m), Check.BROKEN);
        Check.due(what + ": tape", () -> box.count(0), 0);
    }

    private static void ordinary() {
        reads("indices alone", 2, Check.codes(4, 3, 1, 3, 2, 3, 3, 3, 5, 4), "1 2 3");
        reads("a row", 2, Check.codes(4, 3, 1, 3, 2, 3, 6, 3, 5, 4), "1 2 1 2");
        reads("a row that is this one", 2, Check.codes(4, 3, 1, 3, 6, 3, 7, 3, 5, 4), "1 1 1 1 1 1");
        reads("a row of rows", 2, Check.codes(4, 3, 1, 3, 2, 3, 6, 3, 8, 4, 5, 4), "1 2 1 2 1 2 1");
        reads("m = 8", 8, Check.codes(256, 9, 255, 9, 0, 9, 258, 9, 257, 9), "255 0 255 0");
        reads("sample image", 2, new int[] {0x8C, 0x2D, 0x99, 0x87, 0x2A, 0x1C, 0xDC, 0x33, 0xA0, 0x02, 0x75, 0xEC, 0x95,
            0xFA, 0xA8, 0xDE, 0x60, 0x8C, 0x04, 0x91, 0x4C, 0x01},
                "1 1 1 1 1 2 2 2 2 2 1 1 1 1 1 2 2 2 2 2 1 1 1 1 1 2 2 2 2 2 1 1 1 0 0 0 0 2 2 2"
                + " 1 1 1 0 0 0 0 2 2 2 2 2 2 0 0 0 0 1 1 1 2 2 2 0 0 0 0 1 1 1"
                + " 2 2 2 2 2 1 1 1 1 1 2 2 2 2 2 1 1 1 1 1 2 2 2 2 2 1 1 1 1 1");
    }

    private static void beginningsAndEnds() {
        reads("no beginning", 2, Check.codes(1, 3, 6, 3, 5, 4), "1 1 1");
        reads("only the end", 2, Check.codes(5, 3), "");
        reads("beginning and end", 2, Check.codes(4, 3, 5, 3), "");
        reads("beginnings in a row", 2, Check.codes(4, 3, 4, 3, 4, 3, 2, 3, 5, 3), "2");
        reads("anew: fewer bits, no rows", 2, Check.codes(1, 3, 2, 3, 3, 3, 4, 4, 3, 3, 0, 3, 6, 3, 5, 4), "1 2 3 3 0 3 0");
        breaks("anew: the old rows are gone", 2, Check.codes(1, 3, 2, 3, 3, 3, 4, 4, 3, 3, 7, 3, 5, 4));
        reads("bits behind the end", 2, Check.codes(1, 3, 5, 3, 3, 2), "1");
        reads("bytes behind the end", 2, Check.codes(1, 3, 5, 3, 3, 2, 255, 8, 255, 8), "1");
        reads("the end ends with its byte", 3, Check.codes(1, 4, 9, 4), "1");
    }

    private static void broken() {
        breaks("nothing", 2);
        breaks("no end", 2, Check.codes(4, 3, 1, 3, 0, 2));
        breaks("no end, full byte", 3, Check.codes(8, 4, 1, 4));
        breaks("the end is cut", 8, 0x01);
        breaks("the end is cut, where only a 0 is missing", 2, Check.codes(1, 3, 2, 3, 3, 3, 0, 4, 5, 3));
        breaks("the last code is cut", 8, Check.codes(256, 9, 1, 7));
        breaks("row behind the first code is too new", 2, Check.codes(4, 3, 1, 3, 7, 3, 5, 4));
        breaks("a first code that is a row", 2, Check.codes(4, 3, 6, 3, 5, 3));
        breaks("a first code that is a row, no beginning", 2, Check.codes(6, 3, 5, 3));
        breaks("a first code behind a later beginning", 2, Check.codes(1, 3, 1, 3, 4, 4, 6, 3, 5, 3));
        reads("the newest row", 2, Check.codes(0, 3, 1, 3, 2, 3, 8, 4, 5, 4), "0 1 2 2 2");
        breaks("one behind the newest row", 2, Check.codes(0, 3, 1, 3, 2, 3, 9, 4, 5, 4));
        breaks("broken though an end follows", 4, Check.codes(16, 5, 31, 5, 17, 5));
    }

    /** One index again and again: each code makes a row, so the bits grow at known codes. */
    private static int[] singles(int m, int howMany, int[] last) {
        Bits bits = new Bits().add(1 << m, m + 1);
        for (int i = 0; i < howMany; i++) {
            bits.add(1, Model.width(m, i));
        }
        for (int i = 0; i < last.length; i++) {
            bits.add(last[i], Model.width(m, howMany + i));
        }
        return bits.bytes();
    }

    private static void growingBits() {
        for (int m = 2; m <= 8; m++) {
            int width = m;
            for (int bits = m + 1; bits <= 11; bits++) {
                int codes = (1 << bits) - (1 << m) - 1;
                Check.same("m " + m + ": bits before", Model.width(m, codes - 1), bits);
                Check.same("m " + m + ": bits behind", Model.width(m, codes), bits + 1);
                for (int more = -1; more <= 1; more++) {
                    int howMany = codes + more;
                    LzwBox box = Check.boxWith(singles(m, howMany, new int[] {(1 << m) + 1}));
                    Check.due("m " + m + ", " + howMany + " codes", () -> box.unpack(width), howMany);
                }
            }
        }
    }

    private static void fullTable() {
        for (int m = 2; m <= 8; m += 2) {
            int width = m;
            int end = (1 << m) + 1;
            // Behind so many codes the row 4095 is there.
            int codes = 4095 - (1 << m);
            LzwBox box = Check.boxWith(singles(m, codes, new int[] {4095, 1, 4095, 4094, end}));
            Check.due("full, m " + m, () -> box.unpack(width), codes + 7);
            LzwBox itself = Check.boxWith(singles(m, codes - 1, new int[] {4095, end}));
            Check.due("4095 itself, m " + m, () -> itself.unpack(width), codes + 1);
            LzwBox early = Check.boxWith(singles(m, codes - 2, new int[] {4095, end}));
            Check.due("4095 too early, m " + m, () -> early.unpack(width), Check.BROKEN);
            LzwBox kept = Check.boxWith(singles(m, codes, new int[] {2, 3, 4095, end}));
            Check.due("no new rows, m " + m, () -> kept.unpack(width), codes + 4);
            Check.same("4095 stays, m " + m, kept.word(codes), 0x0203010100000000L);
            LzwBox anew = Check.boxWith(withBeginning(m, codes + 5));
            Check.due("anew behind a full table, m " + m, () -> anew.unpack(width), codes + 8);
        }
    }

    private static int[] withBeginning(int m, int howMany) {
        Bits bits = new Bits();
        for (int i = 0; i < howMany; i++) {
            bits.add(1, Model.width(m, i));
        }
        bits.add(1 << m, 12).add(2, m + 1).add((1 << m) + 2, m + 1);
        return bits.add((1 << m) + 1, Model.width(m, 2)).bytes();
    }

    /** Zeros in rows that get longer by one, and then so many single ones that there are just that many. */
    private static Bits zeros(int total, int[] codesWritten) {
        Bits bits = new Bits();
        int made = 0;
        int read = 0;
        for (int length = 1; made + length <= total; length++) {
            bits.add(length == 1 ? 0 : 4 + length, Model.width(2, read++));
            made += length;
        }
        while (made < total) {
            bits.add(0, Model.width(2, read++));
            made++;
        }
        codesWritten[0] = read;
        return bits;
    }

    private static int[] zerosThen(int total, int... codes) {
        int[] read = new int[1];
        Bits bits = zeros(total, read);
        for (int code : codes) {
            bits.add(code, Model.width(2, read[0]++));
        }
        return bits.bytes();
    }

    private static void tooMany() {
        LzwBox just = Check.boxWith(zerosThen(16384, 5));
        Check.due("just so many", () -> just.unpack(2), 16384);
        Check.due("just so many: result", () -> just.count(1), 16384);
        LzwBox more = Check.boxWith(zerosThen(16384, 0, 5));
        Check.due("one more", () -> more.unpack(2), Check.OUTSIDE);
        Check.due("one more: tape", () -> more.count(0), 0);
        LzwBox row = Check.boxWith(zerosThen(16383, 6, 5));
        Check.due("one more by a row", () -> row.unpack(2), Check.OUTSIDE);
        LzwBox noEnd = Check.boxWith(zerosThen(16384, 0));
        Check.due("one more, no end", () -> noEnd.unpack(2), Check.OUTSIDE);
        LzwBox brokenBehind = Check.boxWith(zerosThen(16384, 0, 500));
        Check.due("one more, broken behind", () -> brokenBehind.unpack(2), Check.OUTSIDE);
        LzwBox brokenBefore = Check.boxWith(zerosThen(16384, 511, 0));
        Check.due("broken before", () -> brokenBefore.unpack(2), Check.BROKEN);
        LzwBox cut = Check.boxWith(zerosThen(16384));
        Check.due("just so many, no end", () -> cut.unpack(2), Check.BROKEN);
        int[] read = new int[1];
        Bits anew = zeros(16384, read);
        anew.add(4, Model.width(2, read[0])).add(5, 3);
        LzwBox behind = Check.boxWith(anew.bytes());
        Check.due("just so many, a beginning, the end", () -> behind.unpack(2), 16384);
    }

    private static void whatThrowsLeaves() {
        LzwBox box = Check.boxWith(Check.codes(4, 3, 1, 3, 2, 3, 3, 3, 5, 4));
        box.unpack(2);
        Check.put(box, Check.codes(4, 3, 3, 3, 3, 3));
        Check.due("broken", () -> box.unpack(2), Check.BROKEN);
        Check.due("broken: tape", () -> box.count(0), 0);
        Check.same("broken: result", Check.text(Check.result(box)), "1 2 3");
        Check.put(box, zerosThen(16384, 0, 5));
        Check.due("too many", () -> box.unpack(2), Check.OUTSIDE);
        Check.due("too many: tape", () -> box.count(0), 0);
        Check.same("too many: result", Check.text(Check.result(box)), "1 2 3");
        Check.put(box, Check.codes(4, 3, 0, 3, 5, 3));
        Check.due("good again", () -> box.unpack(2), 1);
        Check.same("good again: result", Check.text(Check.result(box)), "0");
    }

    private static void wrongM() {
        LzwBox box = Check.boxWith(Check.codes(4, 3, 3, 3, 5, 3));
        for (int m : new int[] {1, 9, 0, -1, 34, Integer.MIN_VALUE, Integer.MAX_VALUE}) {
            Check.due("m " + m, () -> box.unpack(m), Check.ILLEGAL);
            Check.due("m " + m + ": tape", () -> box.count(0), 2);
        }
        Check.due("right m", () -> box.unpack(2), 1);
        Check.due("wrong m, empty tape", () -> box.unpack(9), Check.ILLEGAL);
        Check.due("wrong m: result", () -> box.count(1), 1);
    }
}
