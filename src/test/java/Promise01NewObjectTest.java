public final class Promise01NewObjectTest {
    public static void main(String[] args) {
        Due due = new Due("Promise 1, a new object");
        BlockCard x = new BlockCard();
        int[] counts = {32, 4, -4, 0, 0, 0, 0, 0, 0, 0, 0, 0, 0, 0, 0, -4, -4, 0, 1};
        for (int what = 0; what < counts.length; what++) {
            due.same("count(" + what + ")", x.count(what), counts[what]);
        }
        for (int b = 0; b < 32; b++) {
            due.same("block(" + b + ", 0)", x.block(b, 0), 65535);
            due.same("block(" + b + ", 1)", x.block(b, 1), 0);
            due.same("block(" + b + ", 2)", x.block(b, 2), b / 4);
        }
        due.same("block(32, 0)", x.block(32, 0), -1);
        due.same("latest(0)", x.latest(0), -4);
        due.same("word(-1)", x.word(-1), 0);
        due.same("later(-1, 0)", x.later(-1, 0), 0);
        due.same("wipe()", x.wipe(), 0);
        due.same("warm(3)", x.warm(3), 0);

        x = new BlockCard();
        due.same("power(0)", x.power(0), -2);
        due.same("power(1)", x.power(1), 1);
        due.same("first tell(1, 0)", x.tell(1, 0), 0);
        due.same("second tell(1, 0)", x.tell(1, 0), 0);
        due.same("third tell(1, 0)", x.tell(1, 0), 1);
        due.same("tell(2, 0)", x.tell(2, 0), 1000);

        BlockCard other = new BlockCard();
        due.same("another object's count(2)", other.count(2), -4);
        due.same("BAD", BlockCard.BAD, -1);
        due.same("NO", BlockCard.NO, -2);
        due.same("FULL", BlockCard.FULL, -3);
        due.same("NONE", BlockCard.NONE, -4);
        due.end();
    }
}
