public final class Promise19CountTest {
    private static final Due due = new Due("Promise 19, count");

    public static void main(String[] args) {
        wrongNumbers();
        withAndWithoutPower();
        states();
        nextAndHowManyMore();
        tornAndFilled();
        windowWithoutPower();
        due.end();
    }

    private static void counts(BlockCard x, int... wants) {
        for (int what = 0; what < wants.length; what++) {
            due.same("count(" + what + ")", x.count(what), wants[what]);
        }
    }

    private static void wrongNumbers() {
        int[] bad = {-1, 19, 20, Integer.MIN_VALUE, Integer.MAX_VALUE};
        for (int what : bad) {
            due.same("count(" + what + ")", new BlockCard().count(what), -1);
            due.same("count(" + what + ")", Cards.chosen().count(what), -1);
        }
    }

    private static void withAndWithoutPower() {
        BlockCard x = Cards.chosen(20, 8);
        x.warm(1);
        Cards.type(x, "abc");
        x.tell(42, 1);
        x.tell(6, 5);
        x.tell(21, 9);
        x.tell(63, 0);
        x.tell(25, 18);
        Cards.give(x, 7);
        x.tick(3);
        counts(x, 20, 8, 6, 1, 1, 1, 9, 0, 2, 1, 0, 0, 3, 1, 3, 19, -4, 1, 1);
        Cards.give(x, 8);
        x.tick(1);
        x.power(0);
        counts(x, 20, 8, -4, 0, 0, 0, 0, 0, 0, 1, 0, 1, 4, 1, 3, -4, -4, 1, 1);
        x.power(1);
        counts(x, 20, 8, 0, 0, 0, 0, 0, 1, 0, 1, 0, 1, 4, 1, 3, -4, -4, 1, 1);
        Cards.toChosen(x);
        x.tell(42, 8);
        counts(x, 20, 8, 7, 1, 0, 0, 0, 0, 0, 1, 3, 1, 4, 1, 3, -4, -4, 1, 1);
        x.tick(1);
        x.power(0);
        counts(x, 20, 8, -4, 0, 0, 0, 0, 0, 0, 1, 0, 9, 5, 1, 3, -4, -4, 1, 1);
    }

    private static void states() {
        for (int state = 0; state <= 7; state++) {
            due.same("count(2)", Cards.inState(state).count(2), state);
        }
    }

    private static void nextAndHowManyMore() {
        BlockCard x = Cards.chosen();
        due.same("CHOSEN: count(15)", x.count(15), -4);
        due.same("CHOSEN: count(16)", x.count(16), -4);
        x.tell(23, 3);
        x.tell(18, 29);
        for (int i = 0; i < 3; i++) {
            due.same("count(15)", x.count(15), 29 + i);
            due.same("count(16)", x.count(16), 3 - i);
            x.get();
        }
        due.same("count(15)", x.count(15), -4);
        due.same("count(16)", x.count(16), -4);
        x.tell(23, 3);
        x.tell(25, 30);
        due.same("count(15)", x.count(15), 30);
        due.same("count(16)", x.count(16), 3);
        Cards.give(x, 1);
        due.same("count(15)", x.count(15), 31);
        due.same("count(16)", x.count(16), 2);
        Cards.give(x, 1);
        due.same("no BLOCK is left: count(15)", x.count(15), -4);
        due.same("count(16)", x.count(16), 1);
        x.tell(12, 0);
        due.same("WRITING: count(15)", x.count(15), -4);
        due.same("WRITING: count(16)", x.count(16), -4);
    }

    private static void tornAndFilled() {
        BlockCard x = Cards.chosen();
        Cards.put(x, 1, 5);
        Cards.put(x, 2, 65535);
        Cards.put(x, 3, 0);
        due.same("count(17)", x.count(17), 2);
        due.same("count(11)", x.count(11), 0);
        x.tell(24, 3);
        Cards.give(x, 9);
        x.tick(1);
        x.power(0);
        due.same("count(17)", x.count(17), 1);
        due.same("count(11)", x.count(11), 1);
    }

    private static void windowWithoutPower() {
        for (int heat = 0; heat < 16; heat++) {
            BlockCard x = Cards.chosen();
            x.tell(6, 13);
            x.tell(21, 9);
            x.power(0);
            x.warm(heat);
            due.same("count(18) without power at HEAT " + heat, x.count(18), heat == 5 ? 0 : 1);
        }
    }
}
