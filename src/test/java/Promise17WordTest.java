public final class Promise17WordTest {
    public static void main(String[] args) {
        Due due = new Due("Promise 17, word");
        BlockCard x = Cards.chosen();
        due.same("word(-1)", x.word(-1), 0);
        due.same("word(0)", x.word(0), -4);
        int[] bad = {-2, -3, Integer.MIN_VALUE};
        for (int i : bad) {
            due.same("word(" + i + ")", x.word(i), -1);
        }
        Cards.type(x, "aZ 09~!x");
        x.tell(42, 1);
        due.same("word(-1)", x.word(-1), 8);
        for (int i = 0; i < 8; i++) {
            due.same("word(" + i + ")", x.word(i), "aZ 09~!x".charAt(i));
        }
        due.same("word(8)", x.word(8), -4);
        due.same("word(most)", x.word(Integer.MAX_VALUE), -4);
        due.same("word(-2)", x.word(-2), -1);
        x.power(0);
        due.same("word(-1) without power", x.word(-1), 8);
        due.same("word(7) without power", x.word(7), 'x');
        Cards.toChosen(x);
        x.tell(42, 0);
        x.write('q');
        due.same("set anew", x.tell(42, 1), 1);
        due.same("word(-1)", x.word(-1), 1);
        due.same("word(0)", x.word(0), 'q');
        due.same("word(1)", x.word(1), -4);
        due.end();
    }
}
