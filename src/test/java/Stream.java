/** Codes written by hand, each in the bits that a reader has there. */
final class Stream {
    private final int m;
    private final Bits bits = new Bits();
    private int read = 0;
    private int length = 0;

    Stream(int m) {
        this.m = m;
    }

    /** The bits of the next code: the numbers of the document, counted in codes behind a beginning. */
    int width() {
        int width = m + 1;
        while (width < 12 && read >= (1 << width) - (1 << m) - 1) {
            width++;
        }
        return width;
    }

    Stream code(int... codes) {
        for (int code : codes) {
            put(code);
            read++;
        }
        return this;
    }

    Stream times(int howMany, int code) {
        for (int i = 0; i < howMany; i++) {
            code(code);
        }
        return this;
    }

    Stream begin() {
        put(1 << m);
        read = 0;
        return this;
    }

    Stream end() {
        put((1 << m) + 1);
        return this;
    }

    /** What is no code: bits as they are. */
    Stream raw(int value, int width) {
        bits.add(value, width);
        length += width;
        return this;
    }

    /** How many bits are left of the last byte. */
    int left() {
        return (8 - length % 8) % 8;
    }

    int[] bytes() {
        return bits.bytes();
    }

    private void put(int code) {
        raw(code, width());
    }
}
