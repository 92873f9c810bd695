/** FROM, TO, ERASE. */
public final class Promise09EraseTest {
    private static final Due due = new Due("Promise 9, erasing");

    public static void main(String[] args) {
        inOrder();
        groupsCounted();
        outOfOrder();
        blockThatThereIsNot();
        brokenOff();
        notBrokenOff();
        erasedByTicks();
        due.end();
    }

    private static void inOrder() {
        BlockCard x = Cards.chosen();
        due.same("FROM 1", x.tell(32, 1), 0);
        due.same("TO 6", x.tell(33, 6), 0);
        due.same("STATE ahead of ERASE", x.count(2), 4);
        due.same("count(10) ahead of ERASE", x.count(10), 0);
        due.same("ERASE", x.tell(38, 4321), 2);
        due.same("STATE", x.count(2), 7);
        due.same("count(10)", x.count(10), 2);
        due.same("NOTES", x.count(8), 0);
        due.same("ERASE when WRITING", x.tell(38, 0), -4);
        due.same("NOTES", x.count(8), 2);
        x.tick(4);
        due.same("STATE", x.count(2), 4);
        x.tell(13, 1);
        due.same("nothing is begun behind ERASE", x.tell(22, 0), 0);
        due.same("NOTES", x.count(8), 0);
        due.same("ERASE behind that", x.tell(38, 0), -2);
        due.same("NOTES", x.count(8), 8);
    }

    private static void groupsCounted() {
        int[][] rows = {{0, 0, 1}, {0, 3, 1}, {3, 4, 2}, {0, 31, 8}, {31, 31, 1}, {4, 11, 2}, {7, 7, 1}};
        for (int[] r : rows) {
            BlockCard x = Cards.chosen();
            x.tell(32, r[0]);
            due.same("TO " + r[1], x.tell(33, r[1]), 0);
            due.same("ERASE " + r[0] + " to " + r[1], x.tell(38, 0), r[2]);
        }
        BlockCard x = Cards.chosen(7, 3);
        x.tell(32, 0);
        x.tell(33, 6);
        due.same("ERASE 0 to 6 by 3", x.tell(38, 0), 3);
    }

    private static void outOfOrder() {
        BlockCard x = Cards.chosen();
        due.same("ERASE at first", x.tell(38, 0), -2);
        due.same("STATUS", x.tell(13, 1), 1032);
        due.same("TO at first", x.tell(33, 0), -2);
        due.same("STATUS", x.tell(13, 1), 1032);
        x.tell(32, 5);
        due.same("TO less than FROM", x.tell(33, 4), -2);
        due.same("STATUS", x.tell(13, 1), 1032);
        due.same("TO behind that", x.tell(33, 6), -2);
        due.same("STATUS", x.tell(13, 1), 1032);
        x.tell(32, 5);
        due.same("ERASE behind FROM", x.tell(38, 0), -2);
        due.same("STATUS", x.tell(13, 1), 1032);
        due.same("TO behind that", x.tell(33, 6), -2);
        x.tell(13, 1);
        x.tell(32, 5);
        x.tell(33, 6);
        due.same("TO behind TO", x.tell(33, 7), -2);
        due.same("STATUS", x.tell(13, 1), 1032);
        due.same("ERASE behind that", x.tell(38, 0), -2);
        due.same("STATUS", x.tell(13, 1), 1032);
        x.tell(32, 5);
        due.same("FROM behind FROM", x.tell(32, 9), 0);
        due.same("STATUS", x.tell(13, 1), 1032);
        due.same("the second FROM holds", x.tell(33, 8), -2);
        x.tell(13, 1);
        x.tell(32, 5);
        x.tell(33, 6);
        due.same("FROM behind TO", x.tell(32, 0), 0);
        due.same("STATUS", x.tell(13, 1), 1032);
        due.same("TO behind that", x.tell(33, 31), 0);
        due.same("ERASE behind that", x.tell(38, 0), 8);
        due.same("STATUS", x.tell(13, 1), 7 * 256);
    }

    private static void blockThatThereIsNot() {
        BlockCard x = Cards.chosen();
        due.same("FROM 32", x.tell(32, 32), -2);
        due.same("STATUS", x.tell(13, 1), 1028);
        due.same("TO behind that", x.tell(33, 5), -2);
        due.same("STATUS", x.tell(13, 1), 1032);
        due.same("TO 32 not behind FROM", x.tell(33, 32), -2);
        due.same("STATUS", x.tell(13, 1), 1028);
        x.tell(32, 3);
        due.same("TO 32", x.tell(33, 32), -2);
        due.same("STATUS", x.tell(13, 1), 1028);
        due.same("it is forgotten", x.tell(33, 5), -2);
        due.same("STATUS", x.tell(13, 1), 1032);
        x.tell(32, 3);
        due.same("FROM 65535 behind FROM", x.tell(32, 65535), -2);
        due.same("STATUS", x.tell(13, 1), 1024 + 12);
        x.tell(32, 3);
        x.tell(33, 5);
        due.same("TO 32 behind TO", x.tell(33, 32), -2);
        due.same("STATUS", x.tell(13, 1), 1024 + 12);
        due.same("ERASE behind that", x.tell(38, 0), -2);
        due.same("STATUS", x.tell(13, 1), 1032);
    }

    private static void brokenOff() {
        int[][] others = {{7, 1}, {7, 2}, {6, 5}, {21, 3}, {23, 2}, {17, 0}, {17, 40}, {18, 0}, {24, 0},
            {25, 0}, {22, 0}, {42, 9}, {42, 1}};
        for (int[] o : others) {
            for (int steps = 1; steps <= 2; steps++) {
                BlockCard plain = Cards.chosen();
                BlockCard x = Cards.chosen();
                x.tell(32, 2);
                if (steps == 2) {
                    x.tell(33, 3);
                }
                String call = "command " + o[0] + ", " + o[1] + " behind " + steps + " steps";
                due.same(call, x.tell(o[0], o[1]), plain.tell(o[0], o[1]));
                due.same(call + ": STATE", x.count(2), plain.count(2));
                due.same(call + ": NOTES", x.count(8), plain.count(8) | 8);
                x.tell(12, 0);
                x.tell(7, 1);
                x.tell(13, 1);
                due.same("it is forgotten", x.tell(steps == 1 ? 33 : 38, 5), -2);
                due.same("STATUS", x.tell(13, 1), 1032);
            }
        }
        BlockCard x = Cards.chosen();
        x.tell(32, 2);
        due.same("tune() breaks off", x.tune(), 3);
        due.same("NOTES", x.count(8), 8);
    }

    private static void notBrokenOff() {
        BlockCard x = Cards.chosen();
        x.tell(32, 2);
        due.same("STATUS", x.tell(13, 1), 1024);
        due.same("STATUS of another", x.tell(13, 9), -4);
        due.same("a CHECK that does not fit", x.send(22, 0, 0), -4);
        due.same("no COMMAND", x.tell(63, 0), -4);
        due.same("none in this STATE", x.tell(12, 0), -4);
        x.tick(3);
        due.same("TO", x.tell(33, 3), 0);
        due.same("STATUS", x.tell(13, 1), 1027);
        due.same("a CHECK that does not fit", x.send(22, 0, 0), -4);
        due.same("no COMMAND", x.tell(63, 0), -4);
        due.same("STATUS", x.tell(13, 1), 1027);
        due.same("ERASE", x.tell(38, 0), 1);
        due.same("STATUS", x.tell(13, 1), 7 * 256);

        x = Cards.chosen();
        x.tell(32, 2);
        x.power(0);
        Cards.toChosen(x);
        due.same("no NOTES behind a CUT", x.count(8), 0);
        due.same("TO behind a CUT", x.tell(33, 3), -2);
        due.same("NOTES", x.count(8), 8);
    }

    private static void erasedByTicks() {
        BlockCard x = Cards.chosen(10, 4);
        for (int b = 0; b < 10; b++) {
            Cards.put(x, b, 100 + b);
        }
        x.tell(32, 6);
        x.tell(33, 8);
        due.same("ERASE", x.tell(38, 0), 2);
        int before = x.count(12);
        due.same("tick(1)", x.tick(1), before + 1);
        due.same("nothing is erased behind one TICK", x.count(17), 10);
        x.tick(1);
        due.same("a GROUP is erased behind two", x.count(17), 6);
        due.same("count(10)", x.count(10), 1);
        due.same("block(4, 0)", x.block(4, 0), 65535);
        due.same("block(3, 0)", x.block(3, 0), 103);
        due.same("latest(0)", x.latest(0), 9);
        due.same("latest(2)", x.latest(2), 3);
        x.tick(1);
        due.same("count(17)", x.count(17), 6);
        due.same("STATE", x.count(2), 7);
        x.tick(1);
        due.same("count(17)", x.count(17), 4);
        due.same("STATE", x.count(2), 4);
        due.same("count(10)", x.count(10), 0);
        due.same("latest(0)", x.latest(0), 3);
        due.same("latest(3)", x.latest(3), 0);
        due.same("latest(4)", x.latest(4), -4);
        due.same("WELL stays", x.count(9), 1);
        erasingMendsTorn();
    }

    private static void erasingMendsTorn() {
        BlockCard x = Cards.inState(Cards.WRITING);
        x.tick(1);
        x.tell(0, 0);
        Cards.toChosen(x);
        due.same("count(11)", x.count(11), 1);
        x.tell(32, 0);
        x.tell(33, 0);
        x.tell(38, 0);
        x.tick(1);
        due.same("TORN behind one TICK", x.block(0, 1), 1);
        x.tick(1);
        due.same("not TORN behind two", x.block(0, 1), 0);
        due.same("count(11)", x.count(11), 0);
    }
}
