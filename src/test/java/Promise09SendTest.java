public final class Promise09SendTest {
    private static final Due due = new Due("Promise 9, send");

    public static void main(String[] args) {
        wrongNumbers();
        withoutPower();
        checkThatDoesNotFit();
        commandsByState();
        commandsWhenLocked();
        checkIsLookedAtFirst();
        due.end();
    }

    private static void wrongNumbers() {
        int least = Integer.MIN_VALUE;
        int most = Integer.MAX_VALUE;
        int[][] bad = {{-1, 0, 0}, {64, 0, 0}, {0, -1, 0}, {0, 65536, 0}, {0, 0, -1}, {0, 0, 128},
            {least, 0, 0}, {most, 0, 0}, {0, least, 0}, {0, most, 0}, {0, 0, least}, {0, 0, most}};
        for (int[] s : bad) {
            String call = "send(" + s[0] + ", " + s[1] + ", " + s[2] + ")";
            BlockCard off = new BlockCard();
            due.same(call + " without power", off.send(s[0], s[1], s[2]), -1);
            BlockCard x = Cards.chosen();
            String before = Cards.whole(x);
            due.same(call, x.send(s[0], s[1], s[2]), -1);
            due.same("all behind " + call, Cards.whole(x), before);
        }
        BlockCard x = new BlockCard();
        x.power(1);
        due.same("send(63, 65535, 127)", x.send(63, 65535, 127), -4);
        due.same("send(0, 0, 0)", x.send(0, 0, 0), 0);
    }

    private static void withoutPower() {
        for (int command = 0; command < 64; command++) {
            BlockCard x = new BlockCard();
            String before = Cards.whole(x);
            due.same("command " + command, x.send(command, 1, Checks.ofCommand(command, 1)), -4);
            due.same("command " + command, x.send(command, 1, 127 ^ Checks.ofCommand(command, 1)), -4);
            due.same("all behind " + command, Cards.whole(x), before);
        }
    }

    private static void checkThatDoesNotFit() {
        for (int check = 0; check < 128; check++) {
            BlockCard x = Cards.chosen();
            boolean fits = check == 40;
            due.same("send(17, 10, " + check + ")", x.send(17, 10, check), fits ? 0 : -4);
            due.same("count(8)", x.count(8), fits ? 0 : 1);
            due.same("count(2)", x.count(2), fits ? 5 : 4);
        }
        BlockCard x = new BlockCard();
        x.power(1);
        due.same("RESET with a CHECK that does not fit", x.send(0, 0, 1), -4);
        due.same("count(8)", x.count(8), 1);
        due.same("WAKE with a CHECK that does not fit", x.send(1, 0, 0), -4);
        due.same("it is not woken", x.tell(1, 0) + x.tell(1, 0), 0);
        due.same("it is woken", x.tell(1, 0), 1);
    }

    private static boolean isOne(int command, int state) {
        switch (command) {
            case 0: return true;
            case 1: return state == 0;
            case 2: return state == 1;
            case 3: return state == 2 || state == 3;
            case 7: return state == 3 || state == 4;
            case 13: return state >= 3;
            case 12: return state == 5 || state == 6;
            case 6: case 21: case 23: case 17: case 18: case 24: case 25:
            case 22: case 32: case 33: case 38: case 42: return state == 4;
            default: return false;
        }
    }

    private static void commandsByState() {
        for (int state = 0; state <= 7; state++) {
            for (int command = 0; command < 64; command++) {
                for (int argument = 0; argument < 2; argument++) {
                    BlockCard x = Cards.inState(state);
                    due.same("the STATE", x.count(2), state);
                    due.same("no NOTES", x.count(8), 0);
                    int answer = x.send(command, argument, Checks.ofCommand(command, argument));
                    String call = "command " + command + " in STATE " + state;
                    boolean one = isOne(command, state);
                    due.same(call + ": NOTE 2", x.count(8) & 2, one ? 0 : 2);
                    if (!one) {
                        due.same(call, answer, -4);
                        due.same(call + ": STATE", x.count(2), state);
                    }
                }
            }
        }
    }

    private static BlockCard locked() {
        BlockCard x = Cards.chosen();
        Cards.type(x, "k");
        x.tell(42, 5);
        return x;
    }

    private static void commandsWhenLocked() {
        for (int command = 0; command < 64; command++) {
            BlockCard x = locked();
            due.same("LOCKED", x.count(7), 1);
            int answer = x.send(command, 1, Checks.ofCommand(command, 1));
            boolean one = command == 0 || command == 7 || command == 13 || command == 42;
            String call = "command " + command + " when it is LOCKED";
            due.same(call + ": NOTE 2", x.count(8) & 2, one ? 0 : 2);
            if (!one) {
                due.same(call, answer, -4);
                due.same(call + ": STATE", x.count(2), 4);
            }
        }
        BlockCard x = locked();
        x.tell(0, 0);
        due.same("LOCKED behind RESET", x.count(7), 1);
        due.same("WAKE", x.tell(1, 0) + x.tell(1, 0) + x.tell(1, 0), 1);
        due.same("NAME", x.tell(2, 0), 1000);
        due.same("ADDRESS", x.tell(3, 0), 1);
        due.same("STATUS", x.tell(13, 1), 3 * 256 + 128);
        due.same("CHOOSE", x.tell(7, 1), 1);
        due.same("STATUS", x.tell(13, 1), 4 * 256 + 128);
    }

    private static void checkIsLookedAtFirst() {
        BlockCard x = new BlockCard();
        x.power(1);
        x.send(5, 0, 1);
        due.same("a CHECK that does not fit, of no COMMAND", x.count(8), 1);
        x.send(5, 0, Checks.ofCommand(5, 0));
        due.same("and one that fits", x.count(8), 3);
    }
}
