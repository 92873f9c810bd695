public final class Promise11GiveTest {
    private static final Due due = new Due("Promise 11, give");

    public static void main(String[] args) {
        wrongNumbers();
        notTaking();
        givenWell();
        full();
        noBlockIsLeft();
        wrongOnes();
        forSoMany();
        orderOfAnswers();
        due.end();
    }

    private static void wrongNumbers() {
        int[][] bad = {{-1, 0}, {65536, 0}, {0, -1}, {0, 128}, {Integer.MIN_VALUE, 0}, {Integer.MAX_VALUE, 0},
            {0, Integer.MIN_VALUE}, {0, Integer.MAX_VALUE}};
        for (int[] g : bad) {
            String call = "give(" + g[0] + ", " + g[1] + ")";
            due.same(call + " without power", new BlockCard().give(g[0], g[1]), -1);
            BlockCard x = Cards.inState(Cards.TAKING);
            String before = Cards.whole(x);
            due.same(call, x.give(g[0], g[1]), -1);
            due.same("all behind " + call, Cards.whole(x), before);
        }
        BlockCard x = Cards.inState(Cards.TAKING);
        due.same("give(65535, 101)", x.give(65535, 101), 1);
        due.same("give(0, 0)", x.give(0, 0), 1);
    }

    private static void notTaking() {
        due.same("give without power", new BlockCard().give(1, 9), -2);
        for (int state = 0; state <= 7; state++) {
            BlockCard x = Cards.inState(state);
            String before = Cards.whole(x);
            if (state != Cards.TAKING) {
                due.same("give in STATE " + state, x.give(1, 9), -2);
                due.same("give with a wrong CHECK in STATE " + state, x.give(1, 8), -2);
                due.same("all behind it", Cards.whole(x), before);
            } else {
                due.same("give in STATE 6", x.give(1, 9), 1);
            }
        }
    }

    private static void givenWell() {
        BlockCard x = Cards.chosen();
        x.tell(25, 10);
        due.same("give 100", x.give(100, 114), 1);
        due.same("later(-1, 0)", x.later(-1, 0), 1);
        due.same("later(0, 0)", x.later(0, 0), 10);
        due.same("later(0, 1)", x.later(0, 1), 100);
        due.same("later(0, 2)", x.later(0, 2), 0);
        due.same("count(15)", x.count(15), 11);
        due.same("not written yet", x.block(10, 0), 65535);
        due.same("give 200", x.give(200, 109), 1);
        due.same("later(1, 0)", x.later(1, 0), 11);
        due.same("later(1, 1)", x.later(1, 1), 200);
        due.same("STATE", x.count(2), 6);
        due.same("NOTES", x.count(8), 0);
    }

    private static void full() {
        BlockCard x = Cards.inState(Cards.TAKING);
        Cards.give(x, 1);
        Cards.give(x, 2);
        String before = Cards.whole(x);
        due.same("give the third", Cards.give(x, 3), -3);
        due.same("all behind it", Cards.whole(x), before);
        x.tick(3);
        due.same("give it again", Cards.give(x, 3), -3);
        x.tick(1);
        due.same("give it when one is written", Cards.give(x, 3), 1);
        due.same("later(0, 1)", x.later(0, 1), 2);
        due.same("later(1, 1)", x.later(1, 1), 3);
        due.same("later(1, 0)", x.later(1, 0), 2);
    }

    private static void noBlockIsLeft() {
        BlockCard x = Cards.chosen();
        x.tell(25, 31);
        due.same("give the last", Cards.give(x, 1), 1);
        due.same("STATE", x.count(2), 6);
        due.same("count(15)", x.count(15), -4);
        due.same("give behind the last", Cards.give(x, 2), -2);
        due.same("STATUS", x.tell(13, 1), 6 * 256 + 4);
        due.same("a wrong CHECK behind the last", x.give(2, 0), -2);
        due.same("STATUS", x.tell(13, 1), 6 * 256 + 4);
        due.same("later(-1, 0)", x.later(-1, 0), 1);
        due.same("STOP", x.tell(12, 0), 1);

        x = Cards.chosen();
        x.tell(25, 30);
        Cards.give(x, 1);
        Cards.give(x, 2);
        due.same("no BLOCK is left is ahead of FULL", Cards.give(x, 3), -2);
        due.same("NOTES", x.count(8), 4);
    }

    private static void wrongOnes() {
        for (int check = 0; check < 128; check++) {
            BlockCard x = Cards.inState(Cards.TAKING);
            boolean fits = check == 114;
            due.same("give(100, " + check + ")", x.give(100, check), fits ? 1 : 0);
            due.same("NOTES", x.count(8), fits ? 0 : 64);
            due.same("later(-1, 0)", x.later(-1, 0), fits ? 1 : 0);
            due.same("count(15)", x.count(15), fits ? 1 : 0);
            due.same("the next", x.give(100, 114), fits ? 1 : -2);
        }
        for (int point = 0; point < 16; point++) {
            BlockCard x = Cards.chosen();
            x.tell(21, point);
            x.tell(25, 0);
            due.same("give at POINT " + point, Cards.give(x, 1), point == 11 ? 0 : 1);
        }
        BlockCard x = Cards.inState(Cards.TAKING);
        x.warm(8);
        due.same("too warm", Cards.give(x, 1), 0);
        x.warm(0);
        due.same("WRONG stays", Cards.give(x, 1), -2);
        due.same("STATE", x.count(2), 6);
        due.same("NOTES", x.count(8), 64);

        x = Cards.inState(Cards.TAKING);
        Cards.give(x, 5);
        due.same("the second is WRONG", x.give(6, 0), 0);
        x.tick(4);
        due.same("the first is written", x.block(0, 0), 5);
        due.same("WELL", x.count(9), 1);
        due.same("give behind it", Cards.give(x, 6), -2);
        due.same("still TAKING", x.count(2), 6);
    }

    private static void forSoMany() {
        BlockCard x = Cards.chosen();
        x.tell(24, 5);
        due.same("give one", Cards.give(x, 1), 1);
        due.same("STATE", x.count(2), 7);
        due.same("give one more", Cards.give(x, 2), -2);
        due.same("NOTES", x.count(8), 0);

        x = Cards.chosen();
        x.tell(23, 2);
        x.tell(25, 31);
        due.same("give the last BLOCK", Cards.give(x, 1), 1);
        due.same("STATE, one more is due", x.count(2), 6);
        due.same("count(16)", x.count(16), 1);
        due.same("no BLOCK is left", Cards.give(x, 2), -2);
        due.same("NOTES", x.count(8), 4);

        x = Cards.chosen();
        x.tell(23, 2);
        x.tell(25, 30);
        Cards.give(x, 1);
        due.same("count(16)", x.count(16), 1);
        due.same("the last of so many and the last BLOCK", Cards.give(x, 2), 1);
        due.same("STATE", x.count(2), 7);

        x = Cards.chosen();
        x.tell(24, 5);
        due.same("a WRONG one", x.give(1, 0), 0);
        due.same("STATE", x.count(2), 6);
        due.same("count(16)", x.count(16), 1);
    }

    private static void orderOfAnswers() {
        BlockCard x = Cards.inState(Cards.TAKING);
        Cards.give(x, 1);
        Cards.give(x, 2);
        due.same("FULL is ahead of the CHECK", x.give(3, 0), -3);
        x.warm(8);
        due.same("FULL is ahead of the WINDOW", Cards.give(x, 3), -3);
        due.same("NOTES", x.count(8), 0);
        x = Cards.chosen();
        x.tell(25, 31);
        x.give(1, 0);
        x.tell(13, 1);
        due.same("WRONG is ahead of all", Cards.give(x, 1), -2);
        due.same("NOTES", x.count(8), 0);
    }
}
