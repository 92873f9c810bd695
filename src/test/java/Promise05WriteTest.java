public final class Promise05WriteTest {
    public static void main(String[] args) {
        Due due = new Due("Promise 5, write");
        BlockCard x = new BlockCard();
        int[] bad = {31, 127, 0, -1, 128, 255, Integer.MIN_VALUE, Integer.MAX_VALUE};
        for (int letter : bad) {
            due.same("write(" + letter + ")", x.write(letter), -1);
        }
        due.same("count(14)", x.count(14), 0);
        due.same("write(32)", x.write(32), 1);
        due.same("write(126)", x.write(126), 2);
        for (int i = 3; i <= 200; i++) {
            due.same("write(97), the " + i + "th", x.write(97), i);
        }
        due.same("the 201st", x.write(97), -3);
        due.same("BAD is ahead of FULL", x.write(31), -1);
        due.same("count(14)", x.count(14), 200);

        BlockCard y = Cards.chosen();
        Cards.type(y, " ~");
        y.tell(42, 1);
        due.same("word(0)", y.word(0), 32);
        due.same("word(1)", y.word(1), 126);
        y.power(0);
        due.same("count(14) without power", y.count(14), 2);
        due.end();
    }
}
