import java.util.Arrays;
import java.util.function.Function;
import java.util.function.Supplier;

/** What is thrown, and the promises 1 to 9: each sentence that names an edge, in the document's order. */
public final class PromiseEdgesTest {
    private static final int[] WRONG_M = {1, 9, 0, -1, -2, -8, 10, 34, 40, 258, Integer.MIN_VALUE, Integer.MAX_VALUE};
    // Packed twice they are some more than 16384 bytes.
    private static final int[] WIDE = Check.indices(9960, 8, 4);
    private static final int[] CODES = new Stream(2).begin().code(1, 2, 3).end().bytes();

    public static void main(String[] args) {
        calls512();
        rangeOfM();
        illegalFirst();
        refusedChangesNothing();
        newObjectIsEmpty();
        objectsAreApart();
        feedHighestFirst();
        feedUpToTheLimit();
        refusedFeedLeavesTheTape();
        endRange();
        endKeepsTheFirst();
        againTakesAll();
        againResultStays();
        unpackEmptiesTheTape();
        unpackUpToTheLimit();
        unpackTooManyAtOnce();
        unpackThrowsAndResultStays();
        unpackNoIndices();
        packTapeStays();
        packAtLeastOne();
        packEachBelow();
        packIndicesFirst();
        packUpToTheLimit();
        maskKeepsLowest();
        maskOfTheWholeTape();
        wordZerosBehind();
        wordNoneOfItsBytes();
        countRange();
        Check.finish();
    }

    /** A box with a result of three indices and a tape of four bytes, none of them zero. */
    private static LzwBox usedBox() {
        LzwBox box = Check.boxWith(CODES);
        box.unpack(2);
        Check.put(box, 0xFF, 0x81, 0x42, 0x13);
        return box;
    }

    /** The call throws, and then the box is as its twin that never got it. */
    private static void refused(String what, Supplier<LzwBox> make, Function<LzwBox, Object> call, String want) {
        LzwBox box = make.get();
        Check.due(what, () -> call.apply(box), want);
        Check.same(what + ", behind it", Check.whole(box), Check.whole(make.get()));
    }

    private static void calls512() {
        Check.about("An object is used for at most 512 calls");
        LzwBox fed = new LzwBox();
        for (int call = 1; call <= 508; call++) {
            int length = 20 * call;
            Check.due("feed " + call, () -> fed.feed(-1, -1, -1, -1, -1), length);
        }
        Check.due("call 509", () -> Check.mask(fed, 2), "done");
        int packed = Model.packed(ofAll(10160, 3), 2).length;
        Check.due("call 510", () -> fed.pack(2), packed);
        Check.due("call 511", fed::again, packed);
        Check.due("call 512", () -> fed.unpack(2), 10160);

        LzwBox turned = Check.boxWith(3, 1, 3);
        for (int turn = 0; turn < 125; turn++) {
            turned.pack(2);
            turned.again();
            turned.unpack(2);
            Check.due("turn " + turn, turned::again, 3);
        }
        Check.due("packed and unpacked", () -> turned.word(0), 0x0301030000000000L);
    }

    private static int[] ofAll(int howMany, int index) {
        int[] all = new int[howMany];
        Arrays.fill(all, index);
        return all;
    }

    private static void rangeOfM() {
        Check.about("m is 2 .. 8");
        for (int m = 2; m <= 8; m++) {
            int width = m;
            LzwBox box = Check.boxWith(1, 2, 1);
            Check.due("mask " + m, () -> Check.mask(box, width), "done");
            Check.due("pack " + m, () -> box.pack(width), new Stream(m).begin().code(1, 2, 1).end().bytes().length);
            box.again();
            Check.due("unpack " + m, () -> box.unpack(width), 3);
        }
        for (int m : WRONG_M) {
            refused("mask " + m, PromiseEdgesTest::usedBox, box -> Check.mask(box, m), Check.ILLEGAL);
            refused("pack " + m, PromiseEdgesTest::usedBox, box -> box.pack(m), Check.ILLEGAL);
            refused("unpack " + m, PromiseEdgesTest::usedBox, box -> box.unpack(m), Check.ILLEGAL);
        }
    }

    private static void illegalFirst() {
        Check.about("What is thrown, in this order: IllegalArgumentException; then as the call says");
        for (int m : WRONG_M) {
            Check.due("unpack " + m + " of nothing", () -> new LzwBox().unpack(m), Check.ILLEGAL);
            Check.due("pack " + m + " of nothing", () -> new LzwBox().pack(m), Check.ILLEGAL);
            Check.due("unpack " + m + " of what is broken", () -> Check.boxWith(255, 255).unpack(m), Check.ILLEGAL);
            Check.due("pack " + m + " of what is no index", () -> Check.boxWith(255, 255).pack(m), Check.ILLEGAL);
            LzwBox many = Check.boxWith(tooManyOnes());
            Check.due("unpack " + m + " of too many", () -> many.unpack(m), Check.ILLEGAL);
            Check.due("unpack " + m + " of too many, tape", () -> many.count(0), tooManyOnes().length);
            Check.due("and then", () -> many.unpack(2), Check.OUTSIDE);
        }
        LzwBox wide = boxWithWideTape();
        Check.due("pack of what gets too many", () -> wide.pack(9), Check.ILLEGAL);
        Check.due("and then", () -> wide.pack(8), Check.OUTSIDE);
    }

    private static void refusedChangesNothing() {
        Check.about("A call that throws changes nothing, but as said");
        Supplier<LzwBox> make = PromiseEdgesTest::usedBox;
        refused("end -1", make, box -> box.end(-1), Check.ILLEGAL);
        refused("end 5", make, box -> box.end(5), Check.ILLEGAL);
        refused("pack 7", make, box -> box.pack(7), Check.BROKEN);
        refused("word 3", make, box -> box.word(3), Check.OUTSIDE);
        refused("word -1", make, box -> box.word(-1), Check.OUTSIDE);
        refused("count 2", make, box -> box.count(2), Check.ILLEGAL);
        refused("count -1", make, box -> box.count(-1), Check.ILLEGAL);
        refused("pack of nothing", () -> Check.boxWith(), box -> box.pack(8), Check.BROKEN);
        refused("unpack of nothing", () -> Check.boxWith(), box -> box.unpack(8), Check.BROKEN);
    }

    private static void newObjectIsEmpty() {
        Check.about("Promise 1: THE TAPE and THE RESULT are empty");
        Check.due("tape", () -> new LzwBox().count(0), 0);
        Check.due("result", () -> new LzwBox().count(1), 0);
        Check.due("no byte of the result", () -> new LzwBox().word(0), Check.OUTSIDE);
        Check.due("no byte of the tape", () -> new LzwBox().end(1), Check.ILLEGAL);
        Check.due("end 0", () -> new LzwBox().end(0), 0);
        Check.due("again", () -> new LzwBox().again(), 0);
        Check.due("mask", () -> Check.mask(new LzwBox(), 5), "done");
        Check.due("unpack", () -> new LzwBox().unpack(2), Check.BROKEN);
        Check.due("pack", () -> new LzwBox().pack(2), Check.BROKEN);
    }

    private static void objectsAreApart() {
        Check.about("Promise 1: a new object, whatever others hold");
        LzwBox one = usedBox();
        LzwBox other = new LzwBox();
        Check.due("tape of the new one", () -> other.count(0), 0);
        other.feed(0, 0, 0, 0, 0);
        other.pack(2);
        Check.same("the old one", Check.whole(one), Check.whole(usedBox()));
    }

    private static void feedHighestFirst() {
        Check.about("Promise 2: The 20 bytes of five ints, the highest of each first. Answers its length");
        LzwBox box = new LzwBox();
        Check.due("first", () -> box.feed(0x81020304, 0x05860708, 0x090A8B0C, 0x0D0E0F90, 0xFFFFFFFE), 20);
        Check.due("second", () -> box.feed(Integer.MIN_VALUE, Integer.MAX_VALUE, 0, -1, 1), 40);
        box.pack(8);
        box.again();
        box.unpack(8);
        Check.due("word 0", () -> box.word(0), 0x8102030405860708L);
        Check.due("word 8", () -> box.word(8), 0x090A8B0C0D0E0F90L);
        Check.due("word 16", () -> box.word(16), 0xFFFFFFFE80000000L);
        Check.due("word 24", () -> box.word(24), 0x7FFFFFFF00000000L);
        Check.due("word 32", () -> box.word(32), 0xFFFFFFFF00000001L);
    }

    private static void feedUpToTheLimit() {
        Check.about("Promise 2: it would have more than 16384: IndexOutOfBoundsException");
        for (int length = 16340; length <= 16384; length++) {
            LzwBox box = Check.fullBox(2, 1);
            int before = length;
            box.end(before);
            boolean fits = before + 20 <= 16384;
            Check.due("at " + before, () -> box.feed(1, 1, 1, 1, 1), fits ? before + 20 : Check.OUTSIDE);
            Check.due("at " + before + ", tape", () -> box.count(0), fits ? before + 20 : before);
            Check.due("at " + before + ", result", () -> box.count(1), 16384);
        }
    }

    private static void refusedFeedLeavesTheTape() {
        Check.about("Promise 2: a feed that throws leaves the bytes of the tape");
        for (int length = 16365; length <= 16384; length += 19) {
            LzwBox box = Check.fullBox(2, 1);
            int before = length;
            box.end(before);
            Check.due("feed at " + before, () -> box.feed(-1, -1, -1, -1, -1), Check.OUTSIDE);
            int[] want = Model.packed(ofAll(before, 1), 2);
            Check.due("pack, all below 2^2", () -> box.pack(2), want.length);
            Check.same("bytes", Check.text(Check.result(box)), Check.text(want));
        }
    }

    private static void endRange() {
        Check.about("Promise 3: n 0 .. its length. Answers n");
        for (int n = 0; n <= 4; n++) {
            int kept = n;
            LzwBox box = usedBox();
            Check.due("end " + n, () -> box.end(kept), n);
            Check.due("end " + n + ", tape", () -> box.count(0), n);
            Check.due("end " + n + ", one more", () -> box.end(kept + 1), Check.ILLEGAL);
            Check.due("end " + n + ", result", () -> box.word(0), 0x0102030000000000L);
        }
        for (int n : new int[] {-1, 5, 20, 16384, Integer.MIN_VALUE, Integer.MAX_VALUE}) {
            refused("end " + n, PromiseEdgesTest::usedBox, box -> box.end(n), Check.ILLEGAL);
        }
        LzwBox full = Check.fullBox(2, 1);
        Check.due("longer than any tape", () -> full.end(16385), Check.ILLEGAL);
        Check.due("the longest tape", () -> full.end(16384), 16384);
    }

    private static void endKeepsTheFirst() {
        Check.about("Promise 3: The TAPE keeps its first n bytes");
        LzwBox box = Check.boxWith(0x91, 0x82, 0x73, 0x64, 0x55);
        box.end(2);
        box.feed(0x0A0B0C0D, 0, 0, 0, 0);
        box.end(6);
        box.pack(8);
        box.again();
        box.unpack(8);
        Check.due("and what is fed comes behind them", () -> box.word(0), 0x91820A0B0C0D0000L);
    }

    private static void againTakesAll() {
        Check.about("Promise 4: The TAPE is what the RESULT is. Answers its length");
        LzwBox longer = usedBox();
        Check.due("of four, three", longer::again, 3);
        longer.pack(2);
        Check.same("bytes", Check.text(Check.result(longer)), Check.text(CODES));
        LzwBox shorter = usedBox();
        shorter.end(0);
        Check.due("of none, three", shorter::again, 3);
        LzwBox empty = Check.boxWith(1, 2);
        Check.due("of two, none", empty::again, 0);
        Check.due("of two, none, tape", () -> empty.count(0), 0);
        LzwBox full = Check.fullBox(2, 3);
        full.end(0);
        Check.due("of none, all", full::again, 16384);
        Check.due("of none, all, pack", () -> full.pack(2), Model.packed(ofAll(16384, 3), 2).length);
    }

    private static void againResultStays() {
        Check.about("Promise 4: the RESULT stays");
        LzwBox box = usedBox();
        box.again();
        Check.due("length", () -> box.count(1), 3);
        Check.due("bytes", () -> box.word(0), 0x0102030000000000L);
        box.mask(2);
        box.end(1);
        box.feed(-1, -1, -1, -1, -1);
        Check.due("whatever is done with the tape", () -> box.word(0), 0x0102030000000000L);
        Check.due("and again", box::again, 3);
    }

    private static void unpackEmptiesTheTape() {
        Check.about("Promise 5: The TAPE, which is empty then (also if this throws, but for m)");
        LzwBox good = Check.boxWith(CODES);
        good.unpack(2);
        Check.due("good", () -> good.count(0), 0);
        LzwBox broken = Check.boxWith(255, 255, 255);
        Check.due("broken", () -> broken.unpack(2), Check.BROKEN);
        Check.due("broken, tape", () -> broken.count(0), 0);
        LzwBox many = Check.boxWith(tooManyOnes());
        Check.due("too many", () -> many.unpack(2), Check.OUTSIDE);
        Check.due("too many, tape", () -> many.count(0), 0);
        LzwBox kept = Check.boxWith(CODES);
        Check.due("m", () -> kept.unpack(9), Check.ILLEGAL);
        Check.due("m, tape", () -> kept.count(0), CODES.length);
        Check.due("m, bytes", () -> kept.unpack(2), 3);
        Check.due("and then it is empty", () -> kept.unpack(2), Check.BROKEN);
    }

    /** Codes of ones: rows that grow by one, 180 of them, so that they make 16290; then single ones up to so many. */
    private static Stream ones(int total) {
        Stream stream = new Stream(2).begin().code(1);
        for (int row = 6; row < 6 + 179; row++) {
            stream.code(row);
        }
        return stream.times(total - 16290, 1);
    }

    private static int[] tooManyOnes() {
        return ones(16385).end().bytes();
    }

    private static void unpackUpToTheLimit() {
        Check.about("Promise 5: more than 16384: IndexOutOfBoundsException");
        for (int total = 16380; total <= 16390; total++) {
            LzwBox box = Check.boxWith(ones(total).end().bytes());
            Check.due(total + " ones", () -> box.unpack(2), total <= 16384 ? total : Check.OUTSIDE);
            Check.due(total + " ones, result", () -> box.count(1), total <= 16384 ? total : 0);
        }
        for (int length = 2; length <= 94; length++) {
            int row = 4 + length;
            LzwBox just = Check.boxWith(ones(16384 - length).code(row).end().bytes());
            Check.due("just so many by a row of " + length, () -> just.unpack(2), 16384);
            LzwBox more = Check.boxWith(ones(16385 - length).code(row).end().bytes());
            Check.due("more by a row of " + length, () -> more.unpack(2), Check.OUTSIDE);
        }
        LzwBox last = Check.boxWith(ones(16384).end().bytes());
        last.unpack(2);
        Check.due("the last byte", () -> last.word(16383), 1L << 56);
        Check.due("behind it", () -> last.word(16384), Check.OUTSIDE);
    }

    private static void unpackTooManyAtOnce() {
        Check.about("Promise 5: as soon as a code makes them so many, whatever is behind it");
        unpacks("no end", ones(16385), Check.OUTSIDE);
        unpacks("broken behind", ones(16385).code(511).end(), Check.OUTSIDE);
        unpacks("a row at first behind a beginning", ones(16385).begin().code(6).end(), Check.OUTSIDE);
        unpacks("a beginning behind", ones(16385).begin().end(), Check.OUTSIDE);
        unpacks("broken before", ones(16384).code(511, 1).end(), Check.BROKEN);
        unpacks("not so many, no end", ones(16384), Check.BROKEN);
        unpacks("not so many, a beginning", ones(16384).begin().end(), 16384);
        unpacks("more behind a beginning", ones(16384).begin().code(0).end(), Check.OUTSIDE);
        unpacks("more behind the end", ones(16384).end().code(1, 1, 1), 16384);
    }

    private static void unpacks(String what, Stream stream, Object want) {
        LzwBox box = Check.boxWith(stream.bytes());
        Check.due(what, () -> box.unpack(2), want);
        Check.due(what + ", tape", () -> box.count(0), 0);
    }

    private static void unpackThrowsAndResultStays() {
        Check.about("Promise 5: THE RESULT stays if this throws");
        int[][] tapes = {{}, {255, 255, 255}, new Stream(2).begin().code(3, 3, 3, 3).bytes(),
            new Stream(2).code(3, 3, 3, 9).end().bytes(), tooManyOnes(), ones(16384).bytes()};
        for (int i = 0; i < tapes.length; i++) {
            LzwBox box = usedBox();
            Check.put(box, tapes[i]);
            Check.due("tape " + i, () -> box.unpack(2), i == 4 ? Check.OUTSIDE : Check.BROKEN);
            Check.due("tape " + i + ", result", () -> box.count(1), 3);
            Check.due("tape " + i + ", bytes", () -> box.word(0), 0x0102030000000000L);
            Check.put(box, CODES);
            Check.due("tape " + i + ", wrong m", () -> box.unpack(1), Check.ILLEGAL);
            Check.due("tape " + i + ", wrong m, result", () -> box.word(0), 0x0102030000000000L);
            Check.put(box, new Stream(2).code(3, 2).end().bytes());
            Check.due("tape " + i + ", good again", () -> box.unpack(2), 2);
            Check.due("tape " + i + ", good again, bytes", () -> box.word(0), 0x0302000000000000L);
        }
    }

    private static void unpackNoIndices() {
        Check.about("Promise 5: THE RESULT is its indices. Answers how many (none)");
        for (int m = 2; m <= 8; m++) {
            int width = m;
            LzwBox box = usedBox();
            Check.put(box, new Stream(m).begin().end().bytes());
            Check.due("m " + m, () -> box.unpack(width), 0);
            Check.due("m " + m + ", result", () -> box.count(1), 0);
            Check.due("m " + m + ", word", () -> box.word(0), Check.OUTSIDE);
            Check.due("m " + m + ", again", box::again, 0);
        }
    }

    private static void packTapeStays() {
        Check.about("Promise 6: The TAPE, which stays");
        LzwBox box = Check.boxWith(1, 2, 3);
        for (int time = 0; time < 3; time++) {
            Check.due("pack", () -> box.pack(2), CODES.length);
            Check.due("tape", () -> box.count(0), 3);
            Check.same("result", Check.text(Check.result(box)), Check.text(CODES));
        }
        refused("no index", PromiseEdgesTest::usedBox, used -> used.pack(2), Check.BROKEN);
    }

    private static void packAtLeastOne() {
        Check.about("Promise 6: at least one: else UnsupportedOperationException");
        for (int m = 2; m <= 8; m++) {
            int width = m;
            LzwBox box = usedBox();
            box.end(0);
            Check.due("none, m " + m, () -> box.pack(width), Check.BROKEN);
            Check.due("none, m " + m + ", result", () -> box.word(0), 0x0102030000000000L);
            Check.put(box, 1);
            Check.due("one, m " + m, () -> box.pack(width), (3 * m + 3 + 7) / 8);
        }
    }

    private static void packEachBelow() {
        Check.about("Promise 6: each below 2^m: else UnsupportedOperationException");
        for (int m = 2; m <= 8; m++) {
            int width = m;
            for (int place = 0; place < 3; place++) {
                int[] tape = {0, 0, 0};
                tape[place] = (1 << m) - 1;
                LzwBox box = Check.boxWith(tape);
                Check.due("greatest at " + place + ", m " + m, () -> box.pack(width), Model.packed(tape, m).length);
                for (int wide : new int[] {1 << m, (1 << m) + 1, 127, 128, 255}) {
                    if (wide >= 1 << m && wide < 256) {
                        tape[place] = wide;
                        Check.put(box, tape);
                        Check.due(wide + " at " + place + ", m " + m, () -> box.pack(width), Check.BROKEN);
                    }
                }
            }
        }
        LzwBox full = Check.fullBox(2, 3);
        full.end(16364);
        full.feed(0, 0, 0, 0, 4);
        Check.due("the last of 16384", () -> full.pack(2), Check.BROKEN);
        Check.due("the last of 16384, m 3", () -> full.pack(3) > 0, true);
    }

    /** A tape of bytes whose codes are more than 16384 bytes; the result is the same bytes. */
    private static LzwBox boxWithWideTape() {
        LzwBox box = Check.boxWith(WIDE);
        box.pack(8);
        box.again();
        return box;
    }

    private static void packIndicesFirst() {
        Check.about("Promise 6: else UnsupportedOperationException, first");
        for (int m = 2; m <= 7; m++) {
            int width = m;
            LzwBox box = boxWithWideTape();
            Check.due("m " + m, () -> box.pack(width), Check.BROKEN);
            Check.due("m 8", () -> box.pack(8), Check.OUTSIDE);
        }
    }

    private static void packUpToTheLimit() {
        Check.about("Promise 6: more than 16384 bytes: IndexOutOfBoundsException");
        int[] bytes = Model.packed(WIDE, 8);
        int just = cutTo(bytes, 16384);
        int[] want = Model.packed(Arrays.copyOf(bytes, just), 8);
        LzwBox most = boxWithWideTape();
        most.end(just);
        Check.due("just so many", () -> most.pack(8), 16384);
        Check.due("just so many, tape", () -> most.count(0), just);
        Check.due("just so many, the last byte", () -> most.word(16383), (long) want[16383] << 56);
        packsTooMany(bytes, cutTo(bytes, 16385));
        packsTooMany(bytes, bytes.length);
    }

    /** How many of these bytes become just so many when they are packed. */
    private static int cutTo(int[] bytes, int packedLength) {
        int length = bytes.length;
        while (length > 0 && Model.packed(Arrays.copyOf(bytes, length), 8).length != packedLength) {
            length--;
        }
        Check.same("there is such a length for " + packedLength, length > 0, true);
        return length;
    }

    private static void packsTooMany(int[] bytes, int cut) {
        LzwBox box = boxWithWideTape();
        box.end(cut);
        Check.due("too many of " + cut, () -> box.pack(8), Check.OUTSIDE);
        Check.due("too many of " + cut + ", tape", () -> box.count(0), cut);
        Check.due("too many of " + cut + ", result", () -> box.count(1), bytes.length);
        Check.due("too many of " + cut + ", result's last byte", () -> box.word(bytes.length - 1),
                (long) bytes[bytes.length - 1] << 56);
        box.end(1);
        Check.due("too many of " + cut + ", then one", () -> box.pack(8), 4);
        Check.same("too many of " + cut + ", then one, bytes", Check.text(Check.result(box)),
                Check.text(new Stream(8).begin().code(bytes[0]).end().bytes()));
    }

    private static void maskKeepsLowest() {
        Check.about("Promise 7: The TAPE'S bytes keep their lowest m bits");
        for (int m = 2; m <= 8; m++) {
            LzwBox box = usedBox();
            box.mask(m);
            Check.due("result, m " + m, () -> box.word(0), 0x0102030000000000L);
            Check.due("length, m " + m, () -> box.count(0), 4);
            int k = (1 << m) - 1;
            int[] kept = {0xFF & k, 0x81 & k, 0x42 & k, 0x13 & k};
            Check.same("bytes, m " + m, Check.whole(box), Check.whole(usedBoxWith(kept)));
        }
    }

    private static LzwBox usedBoxWith(int... tape) {
        LzwBox box = usedBox();
        Check.put(box, tape);
        return box;
    }

    private static void maskOfTheWholeTape() {
        Check.about("Promise 7: an empty tape, a full one");
        LzwBox empty = usedBoxWith();
        Check.due("empty", () -> Check.mask(empty, 2), "done");
        Check.same("empty, behind it", Check.whole(empty), Check.whole(usedBoxWith()));
        LzwBox full = Check.fullBox(8, 0xFF);
        Check.due("full", () -> Check.mask(full, 2), "done");
        Check.due("full, length", () -> full.count(0), 16384);
        Check.due("full, pack", () -> full.pack(2), Model.packed(ofAll(16384, 3), 2).length);
        LzwBox shortened = Check.fullBox(8, 0xFF);
        shortened.mask(8);
        Check.due("m 8 keeps all", () -> shortened.pack(7), Check.BROKEN);
    }

    private static void wordZerosBehind() {
        Check.about("Promise 8: 8 bytes of THE RESULT from i on, the highest first, zeros behind its end");
        int[] held = {0xF1, 0x02, 0x83, 0x04, 0x95, 0x06, 0x77, 0x08, 0xA9, 0x7A};
        for (int length = 1; length <= held.length; length++) {
            LzwBox box = Check.boxWith(new Stream(8).code(held).end().bytes());
            box.unpack(8);
            Check.put(box, new Stream(8).code(held).end().bytes());
            box.unpack(8);
            Check.put(box, new Stream(8).code(Arrays.copyOf(held, length)).end().bytes());
            box.unpack(8);
            for (int i = 0; i < length; i++) {
                int at = i;
                long want = 0;
                for (int k = 0; k < 8; k++) {
                    want = want << 8 | (i + k < length ? held[i + k] : 0);
                }
                long due = want;
                Check.due("word " + i + " of " + length, () -> box.word(at), due);
            }
        }
        LzwBox full = Check.fullBox(8, 0xEE);
        Check.due("the last full word", () -> full.word(16376), 0xEEEEEEEEEEEEEEEEL);
        Check.due("one less", () -> full.word(16377), 0xEEEEEEEEEEEEEE00L);
        Check.due("the last byte", () -> full.word(16383), 0xEE00000000000000L);
    }

    private static void wordNoneOfItsBytes() {
        Check.about("Promise 8: i is none of its bytes: IndexOutOfBoundsException");
        for (int i : new int[] {-1, -8, 3, 4, 16383, 16384, Integer.MIN_VALUE, Integer.MAX_VALUE, Integer.MAX_VALUE - 7}) {
            refused("word " + i, PromiseEdgesTest::usedBox, box -> box.word(i), Check.OUTSIDE);
        }
        LzwBox full = Check.fullBox(2, 1);
        Check.due("behind a full result", () -> full.word(16384), Check.OUTSIDE);
        LzwBox packed = Check.boxWith(1, 2, 3);
        packed.pack(2);
        Check.due("the last of what is packed", () -> packed.word(CODES.length - 1), (long) CODES[CODES.length - 1] << 56);
        Check.due("behind what is packed", () -> packed.word(CODES.length), Check.OUTSIDE);
    }

    private static void countRange() {
        Check.about("Promise 9: 0, 1 bytes of the TAPE, of THE RESULT. what 0, 1");
        Check.due("tape", () -> usedBox().count(0), 4);
        Check.due("result", () -> usedBox().count(1), 3);
        LzwBox full = Check.fullBox(2, 1);
        Check.due("full tape", () -> full.count(0), 16384);
        Check.due("full result", () -> full.count(1), 16384);
        for (int what : new int[] {-1, 2, 3, 256, Integer.MIN_VALUE, Integer.MAX_VALUE}) {
            refused("count " + what, PromiseEdgesTest::usedBox, box -> box.count(what), Check.ILLEGAL);
        }
    }
}
