public final class Promise15BlockTest {
    public static void main(String[] args) {
        Due due = new Due("Promise 15, block");
        BlockCard x = Cards.chosen(11, 3);
        Cards.put(x, 0, 0);
        Cards.put(x, 10, 65534);
        x.tell(24, 4);
        Cards.give(x, 44);
        x.tick(1);
        x.power(0);
        due.same("block(0, 0)", x.block(0, 0), 0);
        due.same("block(10, 0)", x.block(10, 0), 65534);
        due.same("block(4, 0)", x.block(4, 0), 65535);
        due.same("block(4, 1)", x.block(4, 1), 1);
        due.same("block(0, 1)", x.block(0, 1), 0);
        for (int b = 0; b < 11; b++) {
            due.same("block(" + b + ", 2)", x.block(b, 2), b / 3);
        }
        int[][] bad = {{-1, 0}, {11, 0}, {0, -1}, {0, 3}, {Integer.MIN_VALUE, 0}, {Integer.MAX_VALUE, 0},
            {0, Integer.MIN_VALUE}, {0, Integer.MAX_VALUE}, {11, 1}, {11, 2}, {-1, 2}, {64, 0}, {63, 0}};
        for (int[] b : bad) {
            due.same("block(" + b[0] + ", " + b[1] + ")", x.block(b[0], b[1]), -1);
        }
        x.make(64, 1, 0, 0);
        due.same("block(63, 2)", x.block(63, 2), 63);
        due.same("block(64, 2)", x.block(64, 2), -1);
        x.make(64, 8, 0, 0);
        due.same("block(63, 2)", x.block(63, 2), 7);
        due.end();
    }
}
