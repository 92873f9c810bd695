public final class Promise04WarmTest {
    public static void main(String[] args) {
        Due due = new Due("Promise 4, warm");
        BlockCard x = new BlockCard();
        due.same("warm(15)", x.warm(15), 0);
        int[] bad = {-1, 16, Integer.MIN_VALUE, Integer.MAX_VALUE};
        for (int heat : bad) {
            due.same("warm(" + heat + ")", x.warm(heat), -1);
            due.same("count(13)", x.count(13), 15);
        }
        due.same("warm(0)", x.warm(0), 15);
        for (int heat = 1; heat < 16; heat++) {
            due.same("warm(" + heat + ")", x.warm(heat), heat - 1);
            due.same("count(13)", x.count(13), heat);
        }
        x.power(1);
        x.power(0);
        due.same("count(13) behind a CUT", x.count(13), 15);

        BlockCard y = Cards.chosen();
        due.same("in the WINDOW", y.count(18), 1);
        y.warm(8);
        due.same("not in the WINDOW when it is warm", y.count(18), 0);
        y.warm(7);
        due.same("in the WINDOW again", y.count(18), 1);
        due.end();
    }
}
