public final class Promise10TellTest {
    public static void main(String[] args) {
        Due due = new Due("Promise 10, tell");
        int[][] bad = {{-1, 0}, {64, 0}, {0, -1}, {0, 65536}, {Integer.MIN_VALUE, 0}, {Integer.MAX_VALUE, 0},
            {0, Integer.MIN_VALUE}, {0, Integer.MAX_VALUE}};
        for (int[] s : bad) {
            BlockCard off = new BlockCard();
            due.same("tell(" + s[0] + ", " + s[1] + ") without power", off.tell(s[0], s[1]), -1);
            BlockCard x = Cards.chosen();
            String before = Cards.whole(x);
            due.same("tell(" + s[0] + ", " + s[1] + ")", x.tell(s[0], s[1]), -1);
            due.same("all behind it", Cards.whole(x), before);
        }
        for (int state = 0; state <= 7; state++) {
            for (int command = 0; command < 64; command++) {
                for (int argument = 0; argument < 50; argument += 7) {
                    BlockCard x = Cards.inState(state);
                    BlockCard y = Cards.inState(state);
                    String call = "tell(" + command + ", " + argument + ") in STATE " + state;
                    due.same(call, x.tell(command, argument),
                        y.send(command, argument, Checks.ofCommand(command, argument)));
                    due.same("all behind " + call, Cards.whole(x), Cards.whole(y));
                }
            }
        }
        BlockCard x = new BlockCard();
        due.same("tell(1, 0) without power", x.tell(1, 0), -4);
        x.power(1);
        due.same("tell(63, 65535)", x.tell(63, 65535), -4);
        due.same("NOTES", x.count(8), 2);
        due.end();
    }
}
