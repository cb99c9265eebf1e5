/** A growing text of bits, the lowest of each code first; slow and plain. */
final class Bits {
    private final StringBuilder bits = new StringBuilder();

    Bits add(int code, int width) {
        for (int k = 0; k < width; k++) {
            bits.append((code >> k & 1) == 1 ? '1' : '0');
        }
        return this;
    }

    int[] bytes() {
        int[] made = new int[(bits.length() + 7) / 8];
        for (int i = 0; i < bits.length(); i++) {
            if (bits.charAt(i) == '1') {
                made[i / 8] |= 1 << i % 8;
            }
        }
        return made;
    }
}
