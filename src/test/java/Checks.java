/** The CHECK by another way: what is left of the bits times 128 by x^7 + x^3 + 1, over two. */
final class Checks {
    private Checks() {
    }

    static int of(long bits, int length) {
        long left = bits << 7;
        for (int i = length + 6; i >= 7; i--) {
            if ((left >> i & 1) == 1) {
                left ^= 0b10001001L << i - 7;
            }
        }
        return (int) left;
    }

    static int ofCommand(int command, int argument) {
        return of(65536L * command + argument, 22);
    }

    static int ofContent(int content) {
        return of(content, 16);
    }
}
