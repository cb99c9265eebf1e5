import java.util.Arrays;

/** LZW as images have it: indices become codes of growing length, and codes become indices again. */
public final class LzwBox {
    private static final int MOST_BYTES = 16384;
    private static final int MOST_NUMBERS = 4096;
    private static final int MOST_BITS = 12;
    private static final int LEAST_M = 2;
    private static final int MOST_M = 8;
    private static final int FED_BYTES = 20;
    private static final int WORD_BYTES = 8;

    private final byte[] tape;
    private int tapeLength;
    // A call that throws must leave the result as it was: the new one is made in the spare row, then they change places.
    private byte[] result;
    private byte[] spare;
    private int resultLength;
    private final Unpacker unpacker;
    private final Packer packer;

    public LzwBox() {
        tape = new byte[MOST_BYTES];
        result = new byte[MOST_BYTES];
        spare = new byte[MOST_BYTES];
        tapeLength = 0;
        resultLength = 0;
        unpacker = new Unpacker();
        packer = new Packer();
    }

    public int feed(int a, int b, int c, int d, int e) throws IndexOutOfBoundsException {
        if (tapeLength > MOST_BYTES - FED_BYTES) {
            throw new IndexOutOfBoundsException("the tape would be too long");
        }
        addToTape(a);
        addToTape(b);
        addToTape(c);
        addToTape(d);
        addToTape(e);
        return tapeLength;
    }

    public int end(int n) throws IllegalArgumentException {
        if (n < 0 || n > tapeLength) {
            throw new IllegalArgumentException("the tape has no such length");
        }
        tapeLength = n;
        return tapeLength;
    }

    public int again() {
        System.arraycopy(result, 0, tape, 0, resultLength);
        tapeLength = resultLength;
        return tapeLength;
    }

    public int unpack(int m) throws IllegalArgumentException, UnsupportedOperationException, IndexOutOfBoundsException {
        checkM(m);
        int packedLength = tapeLength;
        // The tape is empty behind this call even if the reading throws.
        tapeLength = 0;
        takeSpareAsResult(unpacker.read(tape, packedLength, m, spare));
        return resultLength;
    }

    public int pack(int m) throws IllegalArgumentException, UnsupportedOperationException, IndexOutOfBoundsException {
        checkM(m);
        if (!tapeIsIndices(m)) {
            throw new UnsupportedOperationException("the tape is not a row of indices");
        }
        takeSpareAsResult(packer.write(tape, tapeLength, m, spare));
        return resultLength;
    }

    public void mask(int m) throws IllegalArgumentException {
        checkM(m);
        int kept = (1 << m) - 1;
        for (int i = 0; i < tapeLength; i++) {
            tape[i] = (byte) (tape[i] & kept);
        }
    }

    public long word(int i) throws IndexOutOfBoundsException {
        if (i < 0 || i >= resultLength) {
            throw new IndexOutOfBoundsException("the result has no such byte");
        }
        long answer = 0L;
        for (int k = 0; k < WORD_BYTES; k++) {
            int value = i + k < resultLength ? result[i + k] & 0xFF : 0;
            answer = (answer << 8) | value;
        }
        return answer;
    }

    public int count(int what) throws IllegalArgumentException {
        if (what < 0 || what > 1) {
            throw new IllegalArgumentException("only 0 and 1 are counted");
        }
        return what == 0 ? tapeLength : resultLength;
    }

    private static void checkM(int m) {
        if (m < LEAST_M || m > MOST_M) {
            throw new IllegalArgumentException("m is 2 .. 8");
        }
    }

    private void addToTape(int four) {
        for (int shift = 24; shift >= 0 && tapeLength < MOST_BYTES; shift -= 8) {
            tape[tapeLength] = (byte) (four >>> shift);
            tapeLength++;
        }
    }

    private boolean tapeIsIndices(int m) {
        for (int i = 0; i < tapeLength; i++) {
            if ((tape[i] & 0xFF) >= 1 << m) {
                return false;
            }
        }
        return tapeLength > 0;
    }

    private void takeSpareAsResult(int length) {
        byte[] old = result;
        result = spare;
        spare = old;
        resultLength = length;
    }

    /** What a reader knows of numbers and bits; the writer follows it, so that both always agree. */
    private static final class Numbering {
        private int m;
        private int bits;
        private int nextRow;
        private boolean first;

        void startWith(int newM) {
            m = newM;
            beginAnew();
        }

        void beginAnew() {
            bits = m + 1;
            nextRow = (1 << m) + 2;
            first = true;
        }

        int beginning() {
            return 1 << m;
        }

        int ending() {
            return (1 << m) + 1;
        }

        boolean isIndex(int code) {
            return code < 1 << m;
        }

        boolean isFull() {
            return nextRow >= MOST_NUMBERS;
        }

        boolean nextCodeMakesRow() {
            return !first && !isFull();
        }

        void passCode() {
            if (nextCodeMakesRow()) {
                nextRow++;
                if (nextRow == 1 << bits && bits < MOST_BITS) {
                    bits++;
                }
            }
            first = false;
        }
    }

    /** Reads codes. A row is a place in the indices read so far, for there each row has stood once. */
    private static final class Unpacker {
        private final Numbering numbering;
        private final int[] rowStart;
        private final int[] rowLength;
        private byte[] indices;
        private int made;
        private int lastStart;
        private int lastLength;

        Unpacker() {
            numbering = new Numbering();
            rowStart = new int[MOST_NUMBERS];
            rowLength = new int[MOST_NUMBERS];
            indices = new byte[0];
            made = 0;
            lastStart = 0;
            lastLength = 0;
        }

        /** Answers how many indices there are; throws if the codes are broken or make too many. */
        int read(byte[] packed, int packedLength, int m, byte[] target) {
            numbering.startWith(m);
            indices = target;
            made = 0;
            int allBits = 8 * packedLength;
            int place = 0;
            // A code has at least one bit, so there are never more codes than bits.
            for (int codes = 0; codes < allBits && place + numbering.bits <= allBits; codes++) {
                int code = codeAt(packed, packedLength, place, numbering.bits);
                place += numbering.bits;
                if (code == numbering.ending()) {
                    return made;
                }
                if (code == numbering.beginning()) {
                    numbering.beginAnew();
                } else {
                    takeCode(code);
                }
            }
            throw new UnsupportedOperationException("the codes have no end");
        }

        private static int codeAt(byte[] packed, int packedLength, int place, int bits) {
            int window = 0;
            int firstByte = place >> 3;
            for (int k = 0; k < 3 && firstByte + k < packedLength; k++) {
                window |= (packed[firstByte + k] & 0xFF) << (8 * k);
            }
            return (window >> (place & 7)) & ((1 << bits) - 1);
        }

        private void takeCode(int code) {
            int known = numbering.nextRow;
            if (numbering.nextCodeMakesRow()) {
                // The row's last index is the first one of this code, so it is read only once that one is written.
                rowStart[known] = lastStart;
                rowLength[known] = lastLength + 1;
                known++;
            }
            if (code >= known) {
                throw new UnsupportedOperationException("the code is no row yet");
            }
            boolean single = numbering.isIndex(code);
            int length = single ? 1 : rowLength[code];
            if (length > MOST_BYTES - made) {
                throw new IndexOutOfBoundsException("too many indices");
            }
            if (single) {
                indices[made] = (byte) code;
            } else {
                repeat(rowStart[code], length);
            }
            lastStart = made;
            lastLength = length;
            made += length;
            numbering.passCode();
        }

        // Index by index from the front: a row that is made by its own code overlaps what it is copied to.
        private void repeat(int start, int length) {
            for (int k = 0; k < length; k++) {
                indices[made + k] = indices[start + k];
            }
        }
    }

    /** Writes codes. The rows are a tree: each row's children are the rows that are longer by one index. */
    private static final class Packer {
        // No row has the number 0, so it can stand for no row at all.
        private static final int NO_ROW = 0;

        private final Numbering numbering;
        private final BitSink sink;
        private final int[] firstChild;
        private final int[] nextSibling;
        private final int[] lastIndex;

        Packer() {
            numbering = new Numbering();
            sink = new BitSink();
            firstChild = new int[MOST_NUMBERS];
            nextSibling = new int[MOST_NUMBERS];
            lastIndex = new int[MOST_NUMBERS];
        }

        /** Answers how many bytes there are; throws if they are too many. */
        int write(byte[] indices, int length, int m, byte[] target) {
            numbering.startWith(m);
            sink.startOn(target);
            writeBeginning();
            int row = indices[0] & 0xFF;
            for (int i = 1; i < length; i++) {
                int index = indices[i] & 0xFF;
                int longer = childOf(row, index);
                if (longer == NO_ROW) {
                    writeRow(row);
                    addChild(row, index);
                    longer = index;
                }
                row = longer;
            }
            writeRow(row);
            sink.put(numbering.ending(), numbering.bits);
            return sink.finish();
        }

        private void writeBeginning() {
            sink.put(numbering.beginning(), numbering.bits);
            numbering.beginAnew();
            Arrays.fill(firstChild, 0, numbering.beginning(), NO_ROW);
        }

        private void writeRow(int row) {
            sink.put(row, numbering.bits);
            numbering.passCode();
            if (numbering.isFull()) {
                writeBeginning();
            }
        }

        private int childOf(int row, int index) {
            int child = firstChild[row];
            for (int seen = 0; seen < MOST_NUMBERS && child != NO_ROW; seen++) {
                if (lastIndex[child] == index) {
                    return child;
                }
                child = nextSibling[child];
            }
            return NO_ROW;
        }

        private void addChild(int row, int index) {
            // Behind a beginning there is no code that a new row could go on from.
            if (!numbering.nextCodeMakesRow()) {
                return;
            }
            int child = numbering.nextRow;
            lastIndex[child] = index;
            firstChild[child] = NO_ROW;
            nextSibling[child] = firstChild[row];
            firstChild[row] = child;
        }
    }

    /** Takes codes, the lowest bit first, and puts them into bytes. */
    private static final class BitSink {
        private byte[] bytes;
        private int length;
        private int waiting;
        private int waitingBits;

        BitSink() {
            bytes = new byte[0];
            length = 0;
            waiting = 0;
            waitingBits = 0;
        }

        void startOn(byte[] target) {
            bytes = target;
            length = 0;
            waiting = 0;
            waitingBits = 0;
        }

        void put(int code, int bits) {
            waiting |= code << waitingBits;
            waitingBits += bits;
            while (waitingBits >= 8) {
                putByte();
                waitingBits -= 8;
            }
        }

        int finish() {
            if (waitingBits > 0) {
                putByte();
                waitingBits = 0;
            }
            return length;
        }

        private void putByte() {
            if (length >= MOST_BYTES) {
                throw new IndexOutOfBoundsException("too many bytes");
            }
            bytes[length] = (byte) waiting;
            length++;
            waiting >>>= 8;
        }
    }
}
