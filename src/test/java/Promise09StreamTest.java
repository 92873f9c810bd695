/** COUNT, SEND, TAKE, STOP, HOW MANY. */
public final class Promise09StreamTest {
    private static final Due due = new Due("Promise 9, streams");

    public static void main(String[] args) {
        begun();
        blockThatThereIsNot();
        countHolds();
        countIsNoneBehindEach();
        stop();
        howMany();
        due.end();
    }

    private static void begun() {
        int[] commands = {17, 18, 24, 25};
        for (int command : commands) {
            for (int a = 0; a < 32; a += 31) {
                BlockCard x = Cards.chosen();
                due.same("command " + command + " from " + a, x.tell(command, a), 0);
                due.same("STATE", x.count(2), command < 24 ? 5 : 6);
                due.same("count(15)", x.count(15), a);
                due.same("count(16)", x.count(16), command == 17 || command == 24 ? 1 : -4);
                due.same("NOTES", x.count(8), 0);
            }
        }
    }

    private static void blockThatThereIsNot() {
        int[] commands = {17, 18, 24, 25};
        int[] places = {32, 33, 64, 65535};
        for (int command : commands) {
            for (int a : places) {
                BlockCard x = Cards.chosen();
                Cards.put(x, 0, 1);
                x.tell(23, 3);
                due.same("command " + command + " from " + a, x.tell(command, a), -2);
                due.same("STATE", x.count(2), 4);
                due.same("NOTES", x.count(8), 4);
                due.same("WELL stays", x.count(9), 1);
                x.tell(18, 0);
                due.same("COUNT stays", x.count(16), 3);
            }
        }
        BlockCard x = Cards.chosen(4, 1);
        due.same("SEND 4 of 4", x.tell(17, 4), -2);
        due.same("SEND 3 of 4", x.tell(17, 3), 0);
    }

    private static void countHolds() {
        int[] counts = {1, 2, 5, 32, 33, 65535};
        for (int a : counts) {
            BlockCard x = Cards.chosen();
            due.same("COUNT " + a, x.tell(23, a), a);
            due.same("STATE", x.count(2), 4);
            due.same("count(16) ahead", x.count(16), -4);
            x.tell(25, 2);
            due.same("TAKE many: count(16)", x.count(16), a);
            x = Cards.chosen();
            x.tell(23, 7);
            x.tell(23, a);
            x.tell(18, 2);
            due.same("SEND many: count(16)", x.count(16), a);
        }
        BlockCard x = Cards.chosen();
        x.tell(23, 4);
        due.same("COUNT 0", x.tell(23, 0), 0);
        x.tell(25, 2);
        due.same("as many as may be", x.count(16), -4);
    }

    private static void countIsNoneBehindEach() {
        int[] commands = {17, 18, 24, 25};
        for (int command : commands) {
            BlockCard x = Cards.chosen();
            x.tell(23, 3);
            x.tell(command, 0);
            due.same("count(16)", x.count(16), command == 17 || command == 24 ? 1 : 3);
            x.tell(12, 0);
            x.tell(25, 0);
            due.same("COUNT is none behind " + command, x.count(16), -4);
        }
    }

    private static void stop() {
        BlockCard x = Cards.inState(Cards.SENDING);
        x.get();
        due.same("STOP when SENDING", x.tell(12, 99), 0);
        due.same("STATE", x.count(2), 4);
        due.same("count(15)", x.count(15), -4);
        x = Cards.inState(Cards.TAKING);
        due.same("STOP with nothing LATER", x.tell(12, 0), 0);
        due.same("STATE", x.count(2), 4);
        for (int later = 1; later <= 2; later++) {
            x = Cards.inState(Cards.TAKING);
            for (int i = 0; i < later; i++) {
                Cards.give(x, i);
            }
            due.same("STOP with " + later + " LATER", x.tell(12, 0), later);
            due.same("STATE", x.count(2), 7);
            due.same("later(-1, 0)", x.later(-1, 0), later);
            due.same("STOP when WRITING", x.tell(12, 0), -4);
            x.tick(4 * later - 1);
            due.same("STATE", x.count(2), 7);
            x.tick(1);
            due.same("STATE", x.count(2), 4);
            due.same("WELL", x.count(9), later);
        }
        x = Cards.inState(Cards.TAKING);
        x.give(1, 0);
        due.same("STOP behind a WRONG one", x.tell(12, 0), 0);
        due.same("STATE", x.count(2), 4);
        x.tell(25, 0);
        due.same("the next stream is not WRONG", Cards.give(x, 1), 1);
    }

    private static void howMany() {
        BlockCard x = Cards.chosen();
        due.same("HOW MANY at first", x.tell(22, 0), 0);
        x.tell(25, 3);
        for (int i = 0; i < 5; i++) {
            Cards.give(x, i);
            x.tick(4);
            due.same("WELL in the stream", x.count(9), i + 1);
        }
        x.tell(12, 0);
        due.same("HOW MANY", x.tell(22, 500), 5);
        due.same("HOW MANY again", x.tell(22, 0), 5);
        x.tell(18, 0);
        due.same("SENDING leaves it", x.count(9), 5);
        x.tell(12, 0);
        x.power(0);
        Cards.toChosen(x);
        due.same("HOW MANY behind a CUT", x.tell(22, 0), 5);
        x.tell(24, 0);
        due.same("TAKING: WELL is 0", x.count(9), 0);
    }
}
