public final class Promise12GetTest {
    private static final Due due = new Due("Promise 12, get");

    public static void main(String[] args) {
        notSending();
        oneAndMany();
        window();
        torn();
        due.end();
    }

    private static void notSending() {
        due.same("get() without power", new BlockCard().get(), -2);
        for (int state = 0; state <= 7; state++) {
            BlockCard x = Cards.inState(state);
            String before = Cards.whole(x);
            due.same("get() in STATE " + state, x.get(), state == 5 ? 65535 : -2);
            if (state != 5) {
                due.same("all behind it", Cards.whole(x), before);
            }
        }
    }

    private static BlockCard filled() {
        BlockCard x = Cards.chosen(6, 2);
        for (int b = 0; b < 6; b++) {
            Cards.put(x, b, 10 + b);
        }
        return x;
    }

    private static void oneAndMany() {
        BlockCard x = filled();
        x.tell(17, 2);
        due.same("get() of one", x.get(), 12);
        due.same("STATE", x.count(2), 4);
        due.same("get() behind one", x.get(), -2);
        x.tell(18, 3);
        due.same("get() of many", x.get(), 13);
        due.same("count(15)", x.count(15), 4);
        due.same("count(16)", x.count(16), -4);
        due.same("get()", x.get(), 14);
        due.same("STATE", x.count(2), 5);
        due.same("get() of the last BLOCK", x.get(), 15);
        due.same("STATE", x.count(2), 4);
        x.tell(23, 2);
        x.tell(18, 0);
        due.same("get()", x.get(), 10);
        due.same("count(16)", x.count(16), 1);
        due.same("STATE", x.count(2), 5);
        due.same("get() of the last of so many", x.get(), 11);
        due.same("STATE", x.count(2), 4);
        x.tell(23, 9);
        x.tell(18, 4);
        x.get();
        due.same("count(16)", x.count(16), 8);
        due.same("get() of the last BLOCK", x.get(), 15);
        due.same("STATE, though more were due", x.count(2), 4);
        due.same("NOTES", x.count(8), 0);
    }

    private static void window() {
        for (int point = 0; point < 16; point++) {
            BlockCard x = filled();
            x.tell(21, point);
            x.tell(17, 1);
            due.same("get() at POINT " + point, x.get(), point == 11 ? -4 : 11);
            due.same("STATE", x.count(2), point == 11 ? 5 : 4);
        }
        BlockCard x = filled();
        x.tell(18, 1);
        x.warm(8);
        String before = Cards.whole(x);
        due.same("get() when it is too warm", x.get(), -4);
        due.same("all behind it", Cards.whole(x), before);
        x.warm(7);
        due.same("get() when it is cooler", x.get(), 11);
    }

    private static void torn() {
        BlockCard x = filled();
        x.tell(24, 3);
        Cards.give(x, 99);
        x.tick(2);
        x.power(0);
        Cards.toChosen(x);
        x.tell(21, 3);
        x.tell(18, 2);
        due.same("get() ahead of it", x.get(), 12);
        String before = Cards.whole(x);
        due.same("get() of a TORN BLOCK", x.get(), -4);
        due.same("get() of it again", x.get(), -4);
        due.same("all behind it", Cards.whole(x), before);
        due.same("STOP", x.tell(12, 0), 0);
        Cards.put(x, 3, 33);
        x.tell(17, 3);
        due.same("get() when it is written anew", x.get(), 33);
    }
}
