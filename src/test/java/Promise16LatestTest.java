public final class Promise16LatestTest {
    private static final Due due = new Due("Promise 16, latest");

    public static void main(String[] args) {
        order();
        erasedOrTorn();
        allBlocks();
        due.end();
    }

    private static void latest(BlockCard x, int... blocks) {
        for (int i = 0; i < blocks.length; i++) {
            due.same("latest(" + i + ")", x.latest(i), blocks[i]);
        }
        due.same("latest(" + blocks.length + ")", x.latest(blocks.length), -4);
    }

    private static void order() {
        BlockCard x = Cards.chosen();
        int[] bad = {-1, -2, Integer.MIN_VALUE};
        for (int i : bad) {
            due.same("latest(" + i + ")", x.latest(i), -1);
        }
        latest(x);
        due.same("latest(64)", x.latest(64), -4);
        due.same("latest(most)", x.latest(Integer.MAX_VALUE), -4);
        Cards.put(x, 3, 1);
        latest(x, 3);
        Cards.put(x, 8, 1);
        Cards.put(x, 5, 65535);
        latest(x, 5, 8, 3);
        Cards.put(x, 3, 2);
        latest(x, 3, 5, 8);
        Cards.put(x, 3, 2);
        latest(x, 3, 5, 8);
        Cards.put(x, 5, 2);
        latest(x, 5, 3, 8);
        x.tell(24, 8);
        Cards.give(x, 9);
        x.tick(3);
        latest(x, 5, 3, 8);
        x.tick(1);
        latest(x, 8, 5, 3);
        x.tell(0, 0);
        latest(x, 8, 5, 3);
    }

    private static void erasedOrTorn() {
        BlockCard x = Cards.chosen();
        int[] places = {0, 9, 1, 20, 8};
        for (int b : places) {
            Cards.put(x, b, b);
        }
        x.tell(32, 10);
        x.tell(33, 10);
        x.tell(38, 0);
        x.tick(1);
        latest(x, 8, 20, 1, 9, 0);
        x.tick(1);
        latest(x, 20, 1, 0);
        x.tell(24, 1);
        Cards.give(x, 3);
        x.tick(1);
        x.power(0);
        latest(x, 20, 0);
        Cards.toChosen(x);
        x.tell(21, 3);
        Cards.put(x, 1, 3);
        latest(x, 1, 20, 0);
        x.tell(32, 0);
        x.tell(33, 0);
        x.tell(38, 0);
        x.tick(1);
        x.power(0);
        latest(x, 20);
    }

    private static void allBlocks() {
        BlockCard x = Cards.chosen(64, 8);
        x.tell(6, 2);
        x.tell(25, 0);
        for (int b = 0; b < 64; b++) {
            Cards.give(x, b);
            x.tick(1);
        }
        for (int i = 0; i < 64; i++) {
            due.same("latest(" + i + ") of all", x.latest(i), 63 - i);
        }
        due.same("latest(64)", x.latest(64), -4);
        x.tell(12, 0);
        x.tell(24, 0);
        Cards.give(x, 9);
        x.tick(1);
        due.same("latest(0)", x.latest(0), 0);
        due.same("latest(1)", x.latest(1), 63);
        due.same("latest(63)", x.latest(63), 1);
        due.same("latest(64)", x.latest(64), -4);
    }
}
