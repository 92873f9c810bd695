public final class Promise18LaterTest {
    private static final Due due = new Due("Promise 18, later");

    public static void main(String[] args) {
        int[][] bad = {{-2, 0}, {Integer.MIN_VALUE, 0}, {0, -1}, {0, 3}, {-1, -1}, {-1, 3}, {-2, 3},
            {0, Integer.MIN_VALUE}, {0, Integer.MAX_VALUE}, {5, 3}, {5, -1}};
        BlockCard x = Cards.chosen();
        for (int[] l : bad) {
            due.same("later(" + l[0] + ", " + l[1] + ")", x.later(l[0], l[1]), -1);
        }
        all(x);
        x.tell(25, 20);
        all(x);
        Cards.give(x, 500);
        all(x, 20, 500, 0);
        x.tick(1);
        all(x, 20, 500, 1);
        Cards.give(x, 0);
        all(x, 20, 500, 1, 21, 0, 0);
        x.tick(2);
        all(x, 20, 500, 3, 21, 0, 0);
        for (int[] l : bad) {
            due.same("later(" + l[0] + ", " + l[1] + ")", x.later(l[0], l[1]), -1);
        }
        x.tick(1);
        all(x, 21, 0, 0);
        x.tell(12, 0);
        x.tick(3);
        all(x, 21, 0, 3);
        x.tick(1);
        all(x);

        x.tell(25, 0);
        Cards.give(x, 1);
        Cards.give(x, 2);
        x.tick(1);
        x.power(0);
        all(x);
        x.power(1);
        all(x);
        due.end();
    }

    /** BLOCK, CONTENT, TICKS of each. */
    private static void all(BlockCard x, int... rows) {
        int size = rows.length / 3;
        for (int what = 0; what < 3; what++) {
            due.same("later(-1, " + what + ")", x.later(-1, what), size);
            for (int i = 0; i < size; i++) {
                due.same("later(" + i + ", " + what + ")", x.later(i, what), rows[3 * i + what]);
            }
            due.same("later(" + size + ", " + what + ")", x.later(size, what), -4);
            due.same("later(2, " + what + ")", x.later(2, what), -4);
            due.same("later(most, " + what + ")", x.later(Integer.MAX_VALUE, what), -4);
        }
    }
}
