public final class Promise13TickTest {
    private static final Due due = new Due("Promise 13, tick");

    public static void main(String[] args) {
        numbers();
        onlyTakingAndWriting();
        ticksByLines();
        oneBlockOneTick();
        writtenInTaking();
        erasing();
        due.end();
    }

    private static void numbers() {
        BlockCard x = new BlockCard();
        int[] bad = {0, -1, 401, Integer.MIN_VALUE, Integer.MAX_VALUE};
        for (int n : bad) {
            due.same("tick(" + n + ")", x.tick(n), -1);
        }
        due.same("count(12)", x.count(12), 0);
        due.same("tick(1) without power", x.tick(1), 1);
        due.same("tick(400)", x.tick(400), 401);
        x.power(1);
        due.same("tick(3)", x.tick(3), 404);
        due.same("count(12)", x.count(12), 404);
        x.power(0);
        due.same("tick(1) behind a CUT", x.tick(1), 405);
        due.same("STATE", x.count(2), -4);
        x = Cards.inState(Cards.WRITING);
        due.same("a BAD tick", x.tick(0), -1);
        due.same("later(0, 2)", x.later(0, 2), 0);
    }

    private static void onlyTakingAndWriting() {
        for (int state = 0; state <= 5; state++) {
            BlockCard x = Cards.inState(state);
            x.tick(400);
            due.same("STATE behind tick(400)", x.count(2), state);
            due.same("count(9)", x.count(9), 0);
        }
        BlockCard x = Cards.inState(Cards.TAKING);
        x.tick(400);
        due.same("TAKING with nothing LATER", x.count(2), 6);
        due.same("the TICKS of nothing are not kept", Cards.give(x, 1), 1);
        due.same("later(0, 2)", x.later(0, 2), 0);
        x.tick(3);
        due.same("not written behind three", x.block(0, 0), 65535);
    }

    private static void ticksByLines() {
        int[] switches = {0, 1, 2};
        int[] ticks = {4, 2, 1};
        for (int i = 0; i < 3; i++) {
            BlockCard x = Cards.chosen();
            x.tell(6, switches[i]);
            x.tell(24, 7);
            Cards.give(x, 70);
            for (int t = 1; t < ticks[i]; t++) {
                x.tick(1);
                due.same("later(0, 2)", x.later(0, 2), t);
                due.same("not written yet", x.block(7, 0), 65535);
                due.same("STATE", x.count(2), 7);
                due.same("WELL", x.count(9), 0);
            }
            x.tick(1);
            due.same("written", x.block(7, 0), 70);
            due.same("STATE", x.count(2), 4);
            due.same("WELL", x.count(9), 1);
            due.same("later(-1, 0)", x.later(-1, 0), 0);
            due.same("latest(0)", x.latest(0), 7);
        }
    }

    private static void oneBlockOneTick() {
        BlockCard x = Cards.chosen();
        x.tell(6, 2);
        x.tell(25, 0);
        Cards.give(x, 5);
        Cards.give(x, 6);
        x.tick(1);
        due.same("WELL", x.count(9), 1);
        due.same("later(0, 0)", x.later(0, 0), 1);
        due.same("later(0, 2)", x.later(0, 2), 0);
        x.tick(1);
        due.same("WELL", x.count(9), 2);
        x = Cards.chosen();
        x.tell(25, 0);
        Cards.give(x, 5);
        Cards.give(x, 6);
        x.tick(4);
        due.same("none begins in the same TICK", x.later(0, 2), 0);
        due.same("later(0, 1)", x.later(0, 1), 6);
        x.tick(1);
        due.same("later(0, 2)", x.later(0, 2), 1);
        x.tick(3);
        due.same("block(1, 0)", x.block(1, 0), 6);
    }

    private static void writtenInTaking() {
        BlockCard x = Cards.inState(Cards.TAKING);
        Cards.give(x, 5);
        x.tick(400);
        due.same("written", x.block(0, 0), 5);
        due.same("still TAKING", x.count(2), 6);
        due.same("WELL", x.count(9), 1);
        Cards.give(x, 65535);
        x.tick(4);
        due.same("65535 is written too", x.count(9), 2);
        due.same("latest(0)", x.latest(0), 1);
        due.same("count(17)", x.count(17), 1);
        x.warm(8);
        x.tell(12, 0);
        x.tell(24, 1);
        due.same("WELL is 0", x.count(9), 0);
    }

    private static void erasing() {
        BlockCard x = Cards.chosen(9, 2);
        for (int b = 0; b < 9; b++) {
            Cards.put(x, b, b);
        }
        x.tell(32, 0);
        x.tell(33, 8);
        due.same("ERASE", x.tell(38, 0), 5);
        for (int t = 1; t <= 10; t++) {
            due.same("STATE", x.count(2), 7);
            x.tick(1);
            due.same("GROUPS left behind " + t, x.count(10), 5 - t / 2);
            due.same("BLOCKS left behind " + t, x.count(17), t == 10 ? 0 : 9 - t / 2 * 2);
        }
        due.same("STATE", x.count(2), 4);
    }
}
