public final class Promise02MakeTest {
    private static final Due due = new Due("Promise 2, make");

    public static void main(String[] args) {
        edges();
        wrongOnesChangeNothing();
        anotherCard();
        idlenessAndNumber();
        lastGroupMayHaveFewer();
        due.end();
    }

    private static void edges() {
        int[][] good = {{4, 1, 0, 0}, {64, 8, 9, 65535}, {4, 8, 2, 7}, {63, 7, 5, 1}};
        for (int[] m : good) {
            BlockCard x = new BlockCard();
            due.same("make of " + m[0], x.make(m[0], m[1], m[2], m[3]), m[0]);
            due.same("count(0)", x.count(0), m[0]);
            due.same("count(1)", x.count(1), m[1]);
            due.same("last block", x.block(m[0] - 1, 0), 65535);
            due.same("behind the last block", x.block(m[0], 0), -1);
        }
    }

    private static void wrongOnesChangeNothing() {
        int least = Integer.MIN_VALUE;
        int most = Integer.MAX_VALUE;
        int[][] bad = {{3, 4, 2, 7}, {65, 4, 2, 7}, {-1, 4, 2, 7}, {8, 0, 2, 7}, {8, 9, 2, 7}, {8, -1, 2, 7},
            {8, 4, -1, 7}, {8, 4, 10, 7}, {8, 4, 2, -1}, {8, 4, 2, 65536},
            {least, 4, 2, 7}, {most, 4, 2, 7}, {8, least, 2, 7}, {8, most, 2, 7},
            {8, 4, least, 7}, {8, 4, most, 7}, {8, 4, 2, least}, {8, 4, 2, most}};
        for (int[] m : bad) {
            BlockCard x = Cards.chosen();
            Cards.put(x, 5, 50);
            String before = Cards.whole(x);
            due.same("make(" + m[0] + ", " + m[1] + ", " + m[2] + ", " + m[3] + ")", x.make(m[0], m[1], m[2], m[3]), -1);
            due.same("all behind a BAD make", Cards.whole(x), before);
        }
    }

    private static void anotherCard() {
        BlockCard x = Cards.chosen();
        Cards.type(x, "key");
        x.warm(2);
        x.tell(42, 1);
        Cards.put(x, 5, 50);
        x.tell(25, 8);
        Cards.give(x, 7);
        x.tick(1);
        x.power(0);
        Cards.toChosen(x);
        due.same("count(11) ahead of make", x.count(11), 1);
        due.same("count(7) ahead of make", x.count(7), 1);
        due.same("make(32, 4, 2, 1000)", x.make(32, 4, 2, 1000), 32);
        BlockCard fresh = new BlockCard();
        Cards.type(fresh, "key");
        fresh.warm(2);
        due.same("all behind make", Cards.whole(x), Cards.whole(fresh));
        due.same("count(14)", x.count(14), 3);
        due.same("count(13)", x.count(13), 2);
        x.power(1);
        due.same("not LOCKED", x.count(7), 0);

        x = Cards.chosen();
        Cards.put(x, 5, 50);
        due.same("WELL ahead of make", x.count(9), 1);
        x.make(32, 4, 2, 1000);
        due.same("WELL behind make", x.count(9), 0);
        due.same("TICKS behind make", x.count(12), 0);

        x = Cards.inState(Cards.TAKING);
        Cards.give(x, 9);
        x.tick(1);
        due.same("make while it is written", x.make(8, 2, 0, 3), 8);
        due.same("count(11)", x.count(11), 0);
        due.same("count(2)", x.count(2), -4);
        due.same("later(-1, 0)", x.later(-1, 0), 0);
        due.same("power(0)", x.power(0), -2);
        due.same("tell(0, 0)", x.tell(0, 0), -4);
    }

    private static void idlenessAndNumber() {
        for (int idleness = 0; idleness <= 9; idleness++) {
            BlockCard x = new BlockCard();
            x.make(4, 1, idleness, 65535 - idleness);
            x.power(1);
            for (int i = 0; i < idleness; i++) {
                due.same("WAKE " + i + " of " + idleness, x.tell(1, 0), 0);
                due.same("count(2)", x.count(2), 0);
            }
            due.same("last WAKE of " + idleness, x.tell(1, 0), 1);
            due.same("count(2)", x.count(2), 1);
            due.same("NAME", x.tell(2, 0), 65535 - idleness);
        }
    }

    private static void lastGroupMayHaveFewer() {
        BlockCard x = Cards.chosen(7, 3);
        Cards.put(x, 5, 55);
        Cards.put(x, 6, 66);
        due.same("FROM 6", x.tell(32, 6), 0);
        due.same("TO 6", x.tell(33, 6), 0);
        due.same("ERASE", x.tell(38, 0), 1);
        x.tick(2);
        due.same("block(5, 0)", x.block(5, 0), 55);
        due.same("block(6, 0)", x.block(6, 0), 65535);
        due.same("block(6, 2)", x.block(6, 2), 2);
        due.same("count(2)", x.count(2), 4);
    }
}
