/** RESET, WAKE, NAME, ADDRESS, CHOOSE, STATUS, SWITCH, TUNE. */
public final class Promise09StatesTest {
    private static final Due due = new Due("Promise 9, states and switches");

    public static void main(String[] args) {
        wayToChosen();
        choose();
        status();
        reset();
        switchTable();
        tuneTable();
        due.end();
    }

    private static void wayToChosen() {
        BlockCard x = new BlockCard();
        x.power(1);
        due.same("WAKE", x.tell(1, 65535), 0);
        x.tell(1, 0);
        due.same("still IDLE", x.count(2), 0);
        due.same("WAKE", x.tell(1, 0), 1);
        due.same("READY", x.count(2), 1);
        due.same("WAKE when READY", x.tell(1, 0), -4);
        due.same("NAME", x.tell(2, 9), 1000);
        due.same("NAMED", x.count(2), 2);
        due.same("ADDRESS 0", x.count(3), 0);
        due.same("ADDRESS", x.tell(3, 77), 1);
        due.same("STANDBY", x.count(2), 3);
        due.same("ADDRESS again", x.tell(3, 0), 2);
        due.same("STANDBY", x.count(2), 3);
        due.same("count(3)", x.count(3), 2);
    }

    private static void choose() {
        BlockCard x = new BlockCard();
        Cards.toStandby(x);
        due.same("CHOOSE 0", x.tell(7, 0), -4);
        due.same("CHOOSE 2", x.tell(7, 2), -4);
        due.same("STANDBY", x.count(2), 3);
        due.same("CHOOSE 1", x.tell(7, 1), 1);
        due.same("CHOSEN", x.count(2), 4);
        due.same("CHOOSE 1 when CHOSEN", x.tell(7, 1), -4);
        due.same("CHOSEN", x.count(2), 4);
        x.tell(6, 6);
        x.tell(23, 2);
        due.same("CHOOSE 2 when CHOSEN", x.tell(7, 2), -4);
        due.same("STANDBY", x.count(2), 3);
        due.same("no NOTES", x.count(8), 0);
        due.same("ADDRESS", x.tell(3, 0), 2);
        due.same("CHOOSE 2", x.tell(7, 2), 1);
        due.same("LINES stay", x.count(4), 2);
        due.same("SPEED stays", x.count(5), 1);
        x.tell(18, 0);
        due.same("COUNT stays", x.count(16), 2);
    }

    private static void status() {
        for (int state = 3; state <= 7; state++) {
            BlockCard x = Cards.inState(state);
            x.tell(63, 0);
            due.same("STATUS of another", x.tell(13, 0), -4);
            due.same("STATUS of another", x.tell(13, 2), -4);
            due.same("STATUS", x.tell(13, 1), 256 * state + 2);
            due.same("STATUS once more", x.tell(13, 1), 256 * state);
            due.same("count(2)", x.count(2), state);
        }
        BlockCard x = Cards.chosen();
        x.send(63, 0, 0);
        x.tell(63, 0);
        x.tell(17, 32);
        x.tell(38, 0);
        x.tell(42, 9);
        x.tell(6, 8);
        x.tell(24, 0);
        x.give(1, 0);
        due.same("count(8)", x.count(8), 127);
        due.same("STATUS with all NOTES", x.tell(13, 1), 6 * 256 + 127);
        due.same("count(8)", x.count(8), 0);
        x = Cards.inState(Cards.READY);
        x.tell(13, 0);
        due.same("STATUS when READY", x.count(8), 2);
    }

    private static void reset() {
        for (int state = 0; state <= 7; state++) {
            BlockCard x = Cards.inState(state);
            x.tell(63, 0);
            due.same("RESET", x.tell(0, 12345), 0);
            for (int what = 2; what <= 8; what++) {
                due.same("count(" + what + ") behind RESET in STATE " + state, x.count(what), 0);
            }
            due.same("later(-1, 0)", x.later(-1, 0), 0);
            due.same("count(11)", x.count(11), 0);
            due.same("WAKE counted anew", x.tell(1, 0) + x.tell(1, 0), 0);
            due.same("WAKE", x.tell(1, 0), 1);
        }
        BlockCard x = Cards.chosen();
        x.tell(6, 9);
        x.tell(23, 5);
        x.tell(32, 0);
        x.tell(0, 0);
        due.same("no NOTES behind RESET that breaks off", x.count(8), 0);
        due.same("POINT", x.count(6), 0);
        due.same("LINES", x.count(4), 0);
        due.same("SPEED", x.count(5), 0);
        Cards.toChosen(x);
        due.same("CHOSEN", x.count(2), 4);
        x.tell(18, 0);
        due.same("no COUNT behind RESET", x.count(16), -4);
        resetIsACut();
    }

    private static void resetIsACut() {
        BlockCard x = Cards.inState(Cards.WRITING);
        x.tick(1);
        x.tell(0, 0);
        due.same("block(0, 1)", x.block(0, 1), 1);
        due.same("count(11)", x.count(11), 1);
        x = Cards.chosen();
        x.tell(32, 9);
        x.tell(33, 9);
        x.tell(38, 0);
        x.tell(0, 0);
        due.same("no TICK of erasing", x.count(11), 0);
        due.same("count(10)", x.count(10), 0);
        x = Cards.chosen();
        x.tell(32, 9);
        x.tell(33, 9);
        x.tell(38, 0);
        x.tick(1);
        x.tell(0, 0);
        due.same("one TICK of erasing", x.count(11), 4);
        due.same("count(10)", x.count(10), 0);
        due.same("TICKS stay", x.count(12), 1);
    }

    private static void switchTable() {
        int[] arguments = {0, 1, 2, 3, 4, 5, 6, 7, 8, 9, 10, 11, 12, 13, 14, 15, 16, 17, 18, 19, 20, 65535};
        for (int a : arguments) {
            BlockCard x = Cards.chosen();
            x.tell(6, 5);
            int speed = a / 4;
            int lines = a % 4;
            boolean can = speed <= 3 && lines <= 2 && (lines > 0 || speed <= 1);
            due.same("SWITCH " + a, x.tell(6, a), can ? a : 5);
            due.same("NOTES", x.count(8), can ? 0 : 32);
            due.same("LINES", x.count(4), can ? lines : 1);
            due.same("SPEED", x.count(5), can ? speed : 1);
            due.same("POINT", x.count(6), 3);
            due.same("STATE", x.count(2), 4);
        }
    }

    private static void tuneTable() {
        // SPEED 0: 7 round 3; SPEED 1: 5 round 8; SPEED 2: 3 round 13; SPEED 3: 1 round 18 = 2
        String[] windows = {"1111111111101111", "0001111111111100", "1000000000111111", "0111000000000000"};
        int[] switches = {1, 5, 9, 13};
        for (int speed = 0; speed < 4; speed++) {
            for (int heat = 0; heat < 16; heat++) {
                BlockCard x = Cards.chosen();
                x.warm(heat);
                x.tell(6, switches[speed]);
                for (int point = 0; point < 16; point++) {
                    int due1 = windows[speed].charAt((point - heat + 16) % 16) - '0';
                    String call = "TUNE " + point + " at SPEED " + speed + ", HEAT " + heat;
                    due.same(call, x.tell(21, point), due1);
                    due.same("count(6)", x.count(6), point);
                    due.same("count(18)", x.count(18), due1);
                }
                due.same("TUNE 16 * 5 + 1", x.tell(21, 81), windows[speed].charAt((1 - heat + 16) % 16) - '0');
                due.same("count(6)", x.count(6), 1);
                due.same("TUNE 65535", x.tell(21, 65535), windows[speed].charAt((15 - heat + 16) % 16) - '0');
                due.same("count(6)", x.count(6), 15);
            }
        }
    }
}
