/** Promises 1, 2, 3, 4, 7 and 9: a new object, feed, end, again, mask, count. */
public final class TapeTest {
    public static void main(String[] args) {
        newObject();
        feed();
        feedAtTheLimit();
        end();
        again();
        mask();
        count();
        Check.finish();
    }

    /** The tape's bytes; m = 8 takes every byte as an index, so that packing and unpacking shows them. */
    private static String tape(LzwBox box) {
        box.pack(8);
        box.again();
        box.unpack(8);
        box.again();
        return Check.text(Check.result(box));
    }

    private static void newObject() {
        LzwBox box = new LzwBox();
        Check.due("new: tape", () -> box.count(0), 0);
        Check.due("new: result", () -> box.count(1), 0);
        Check.due("new: word", () -> box.word(0), Check.OUTSIDE);
        Check.due("new: end", () -> box.end(1), Check.ILLEGAL);
        Check.due("new: again", box::again, 0);
        Check.due("new: pack", () -> box.pack(8), Check.BROKEN);
        Check.due("new: unpack", () -> box.unpack(8), Check.BROKEN);
        LzwBox other = Check.boxWith(1, 2, 3);
        Check.due("two objects: one", () -> other.count(0), 3);
        Check.due("two objects: the other", () -> box.count(0), 0);
    }

    private static void feed() {
        LzwBox box = new LzwBox();
        Check.due("feed", () -> box.feed(0x01020304, 0x05060708, 0x090A0B0C, 0x0D0E0F10, 0x11121314), 20);
        Check.due("feed more", () -> box.feed(-1, 0x80000000, 0x7FFFFFFF, 0, 0xFE), 40);
        Check.due("feed: result stays", () -> box.count(1), 0);
        Check.same("feed: bytes", tape(box), "1 2 3 4 5 6 7 8 9 10 11 12 13 14 15 16 17 18 19 20"
                + " 255 255 255 255 128 0 0 0 127 255 255 255 0 0 0 0 0 0 0 254");
        box.end(3);
        Check.due("feed behind end", () -> box.feed(0x63000000, 0, 0, 0, 0x62), 23);
        Check.same("feed behind end: bytes", tape(box), "1 2 3 99 0 0 0 0 0 0 0 0 0 0 0 0 0 0 0 0 0 0 98");
    }

    private static void feedAtTheLimit() {
        LzwBox box = boxWithFullTape();
        Check.due("feed: full", () -> box.feed(0, 0, 0, 0, 0), Check.OUTSIDE);
        Check.due("feed: full, unchanged", () -> box.count(0), 16384);
        box.end(16365);
        Check.due("feed: one too many", () -> box.feed(-1, -1, -1, -1, -1), Check.OUTSIDE);
        Check.due("feed: one too many, unchanged", () -> box.count(0), 16365);
        box.end(16364);
        Check.due("feed: just full", () -> box.feed(0, 0, 0, 0, 0x0A), 16384);
        box.end(0);
        Check.due("feed: empty again", () -> box.feed(0, 0, 0, 0, 0), 20);
    }

    private static LzwBox boxWithFullTape() {
        int[] packed = Model.packed(new int[16384], 2);
        LzwBox box = Check.boxWith(packed);
        Check.due("unpack 16384 zeros", () -> box.unpack(2), 16384);
        Check.due("again 16384 zeros", box::again, 16384);
        return box;
    }

    private static void end() {
        LzwBox box = Check.boxWith(1, 2, 3, 4, 5);
        Check.due("end: longer", () -> box.end(6), Check.ILLEGAL);
        Check.due("end: below 0", () -> box.end(-1), Check.ILLEGAL);
        Check.due("end: least int", () -> box.end(Integer.MIN_VALUE), Check.ILLEGAL);
        Check.due("end: greatest int", () -> box.end(Integer.MAX_VALUE), Check.ILLEGAL);
        Check.due("end: unchanged", () -> box.count(0), 5);
        Check.due("end: all", () -> box.end(5), 5);
        Check.due("end: some", () -> box.end(3), 3);
        Check.due("end: back", () -> box.end(4), Check.ILLEGAL);
        Check.same("end: the first ones", tape(box), "1 2 3");
        Check.due("end: none", () -> box.end(0), 0);
        Check.due("end: empty", () -> box.count(0), 0);
        Check.due("end: still none", () -> box.end(0), 0);
    }

    private static void again() {
        LzwBox box = Check.boxWith(7, 7, 7, 200);
        Check.due("again: pack", () -> box.pack(8), 6);
        String packed = Check.text(Check.result(box));
        box.feed(1, 2, 3, 4, 5);
        Check.due("again", box::again, 6);
        Check.due("again: tape", () -> box.count(0), 6);
        Check.due("again: result", () -> box.count(1), 6);
        Check.same("again: result stays", Check.text(Check.result(box)), packed);
        box.mask(2);
        Check.same("again: the tape is another one", Check.text(Check.result(box)), packed);
        Check.due("again: twice", box::again, 6);
        Check.same("again: bytes", tape(box), packed);
        LzwBox empty = Check.boxWith(1, 2);
        Check.due("again: empty result", empty::again, 0);
        Check.due("again: empty tape", () -> empty.count(0), 0);
    }

    private static void mask() {
        int[] kept = {3, 7, 15, 31, 63, 127, 255};
        for (int m = 2; m <= 8; m++) {
            int width = m;
            LzwBox box = Check.boxWith(255, 0, 0xA5, 0x80, 0x41);
            int k = kept[m - 2];
            Check.due("mask " + m, () -> Check.mask(box, width), "done");
            Check.due("mask: length", () -> box.count(0), 5);
            Check.due("mask: result", () -> box.count(1), 0);
            Check.same("mask " + m + ": bytes", tape(box), Check.text(255 & k, 0, 0xA5 & k, 0x80 & k, 0x41 & k));
        }
        LzwBox box = Check.boxWith(255, 254);
        for (int m : new int[] {1, 9, 0, -1, 34, Integer.MIN_VALUE, Integer.MAX_VALUE}) {
            Check.due("mask " + m, () -> Check.mask(box, m), Check.ILLEGAL);
        }
        Check.same("mask: unchanged", tape(box), "255 254");
        Check.due("mask: empty tape", () -> Check.mask(new LzwBox(), 2), "done");
    }

    private static void count() {
        LzwBox box = Check.boxWith(1, 1, 1);
        box.pack(2);
        Check.due("count 0", () -> box.count(0), 3);
        Check.due("count 1", () -> box.count(1), 2);
        for (int what : new int[] {-1, 2, Integer.MIN_VALUE, Integer.MAX_VALUE}) {
            Check.due("count " + what, () -> box.count(what), Check.ILLEGAL);
        }
    }
}
