public final class Promise06WipeTest {
    public static void main(String[] args) {
        Due due = new Due("Promise 6, wipe");
        BlockCard x = new BlockCard();
        due.same("wipe() of nothing", x.wipe(), 0);
        x.write(97);
        x.write(98);
        due.same("wipe()", x.wipe(), 2);
        due.same("count(14)", x.count(14), 0);
        due.same("wipe() again", x.wipe(), 0);
        due.same("write(99)", x.write(99), 1);
        x.wipe();
        for (int i = 0; i < 200; i++) {
            x.write(97);
        }
        due.same("wipe() of 200", x.wipe(), 200);
        due.same("write(97) behind it", x.write(97), 1);

        BlockCard y = Cards.chosen();
        Cards.type(y, "abcd");
        y.tell(42, 1);
        y.wipe();
        due.same("the WORD stays", Cards.word(y), "abcd");
        due.same("an empty TEXT is not the WORD", y.tell(42, 4), -2);
        due.end();
    }
}
