public final class Promise03PowerTest {
    private static final Due due = new Due("Promise 3, power");

    public static void main(String[] args) {
        onAndOff();
        whatGoesWithPower();
        whatStays();
        cutWhileWriting();
        cutWhileErasing();
        lockedByPower();
        due.end();
    }

    private static void onAndOff() {
        BlockCard x = new BlockCard();
        int[] bad = {-1, 2, Integer.MIN_VALUE, Integer.MAX_VALUE};
        for (int on : bad) {
            due.same("power(" + on + ")", x.power(on), -1);
        }
        due.same("power(0) without power", x.power(0), -2);
        due.same("power(1)", x.power(1), 1);
        due.same("count(2)", x.count(2), 0);
        due.same("power(1) with power", x.power(1), -2);
        for (int on : bad) {
            due.same("power(" + on + ")", x.power(on), -1);
        }
        due.same("power(0)", x.power(0), 1);
        due.same("count(2)", x.count(2), -4);
        due.same("power(0) again", x.power(0), -2);
    }

    private static void whatGoesWithPower() {
        BlockCard x = Cards.chosen();
        x.tell(6, 9);
        x.tell(21, 9);
        x.tell(23, 3);
        x.tell(63, 0);
        for (int what = 3; what <= 8; what++) {
            due.same("count(" + what + ") is not 0 with power", x.count(what) == 0 ? 0 : 1, what == 7 ? 0 : 1);
        }
        due.same("power(0)", x.power(0), 1);
        for (int what = 3; what <= 8; what++) {
            due.same("count(" + what + ") without power", x.count(what), 0);
        }
        due.same("power(1)", x.power(1), 1);
        for (int what = 2; what <= 8; what++) {
            due.same("count(" + what + ") behind POWER ON", x.count(what), 0);
        }
        due.same("WAKE counted anew", x.tell(1, 0), 0);
        x.power(0);
        x.power(1);
        due.same("WAKE 1", x.tell(1, 0), 0);
        due.same("WAKE 2", x.tell(1, 0), 0);
        due.same("WAKE 3", x.tell(1, 0), 1);
        x.tell(2, 0);
        due.same("ADDRESS", x.tell(3, 0), 1);
        x.tell(7, 1);
        x.tell(25, 0);
        due.same("no COUNT", x.count(16), -4);
    }

    private static void whatStays() {
        BlockCard x = Cards.chosen();
        Cards.put(x, 9, 90);
        Cards.type(x, "w");
        x.tell(42, 1);
        x.power(0);
        due.same("block(9, 0)", x.block(9, 0), 90);
        due.same("latest(0)", x.latest(0), 9);
        due.same("word(0)", x.word(0), 'w');
        due.same("count(9)", x.count(9), 1);
        due.same("count(12)", x.count(12), 4);
        due.same("count(17)", x.count(17), 1);
        x.power(1);
        due.same("block(9, 0) behind POWER ON", x.block(9, 0), 90);
        due.same("latest(0) behind POWER ON", x.latest(0), 9);
        due.same("word(-1) behind POWER ON", x.word(-1), 1);
        due.same("count(9) behind POWER ON", x.count(9), 1);
    }

    private static void cutWhileWriting() {
        BlockCard x = Cards.chosen();
        Cards.put(x, 8, 80);
        Cards.put(x, 9, 90);
        x.tell(25, 8);
        Cards.give(x, 81);
        Cards.give(x, 91);
        x.power(0);
        due.same("no TICK: count(11)", x.count(11), 0);
        due.same("no TICK: block(8, 0)", x.block(8, 0), 80);
        due.same("later(-1, 0)", x.later(-1, 0), 0);
        due.same("WELL by the stream", x.count(9), 0);

        Cards.toChosen(x);
        x.tell(21, 3);
        x.tell(25, 8);
        Cards.give(x, 81);
        Cards.give(x, 91);
        x.tick(3);
        x.power(0);
        due.same("three TICKS: block(8, 1)", x.block(8, 1), 1);
        due.same("three TICKS: block(8, 0)", x.block(8, 0), 65535);
        due.same("the second: block(9, 1)", x.block(9, 1), 0);
        due.same("the second: block(9, 0)", x.block(9, 0), 90);
        due.same("latest(0)", x.latest(0), 9);
        due.same("latest(1)", x.latest(1), -4);
        due.same("count(11)", x.count(11), 1);
        x.power(1);
        due.same("count(11) behind POWER ON", x.count(11), 1);
        due.same("later(-1, 0) behind POWER ON", x.later(-1, 0), 0);
        Cards.toChosen(x);
        x.tell(21, 3);
        x.tell(24, 12);
        Cards.give(x, 82);
        due.same("no TICK is left over", x.later(0, 2), 0);
        x.power(0);
        due.same("a BLOCK without a TICK is not TORN by the TICKS of one ahead of the CUT", x.count(11), 1);
    }

    private static void cutWhileErasing() {
        BlockCard x = Cards.chosen(10, 4);
        for (int b = 0; b < 10; b++) {
            Cards.put(x, b, b);
        }
        x.tell(32, 4);
        x.tell(33, 9);
        due.same("ERASE", x.tell(38, 0), 2);
        x.power(0);
        due.same("no TICK: count(11)", x.count(11), 0);
        due.same("no TICK: count(17)", x.count(17), 10);
        due.same("count(10) without power", x.count(10), 0);

        Cards.toChosen(x);
        x.tell(32, 4);
        x.tell(33, 9);
        x.tell(38, 0);
        x.tick(3);
        due.same("count(10)", x.count(10), 1);
        x.power(0);
        due.same("the last GROUP has two: count(11)", x.count(11), 2);
        due.same("block(8, 1)", x.block(8, 1), 1);
        due.same("block(9, 1)", x.block(9, 1), 1);
        due.same("block(7, 1)", x.block(7, 1), 0);
        due.same("count(17)", x.count(17), 4);
        due.same("latest(0)", x.latest(0), 3);
        due.same("latest(4)", x.latest(4), -4);
        x.power(1);
        due.same("count(10) behind POWER ON", x.count(10), 0);
    }

    private static void lockedByPower() {
        BlockCard x = Cards.chosen();
        Cards.type(x, "w");
        x.tell(42, 1);
        due.same("count(7) with power", x.count(7), 0);
        x.power(0);
        due.same("count(7) without power", x.count(7), 0);
        x.power(1);
        due.same("count(7) behind POWER ON", x.count(7), 1);
    }
}
