public final class Promise14TuneTest {
    public static void main(String[] args) {
        Due due = new Due("Promise 14, tune");
        int[] switches = {0, 4, 1, 5, 9, 13, 2, 6, 10, 14};
        for (int a : switches) {
            for (int heat = 0; heat < 16; heat++) {
                BlockCard x = Cards.chosen();
                x.warm(heat);
                x.tell(6, a);
                int middle = (3 + 5 * (a / 4) + heat) % 16;
                due.same("tune() by SWITCH " + a + ", HEAT " + heat, x.tune(), middle);
                due.same("count(6)", x.count(6), middle);
                due.same("count(18)", x.count(18), 1);
                due.same("count(8)", x.count(8), 0);
                due.same("count(2)", x.count(2), 4);
            }
        }
        due.same("tune() without power", new BlockCard().tune(), -4);
        for (int state = 0; state <= 7; state++) {
            BlockCard x = Cards.inState(state);
            due.same("tune() in STATE " + state, x.tune(), state == 4 ? 3 : -4);
            due.same("NOTES", x.count(8), state == 4 ? 0 : 2);
            due.same("POINT", x.count(6), state < 4 ? 0 : 3);
        }
        BlockCard x = Cards.chosen();
        Cards.type(x, "k");
        x.tell(42, 5);
        due.same("tune() when LOCKED", x.tune(), -4);
        due.same("NOTES", x.count(8), 2);
        due.end();
    }
}
