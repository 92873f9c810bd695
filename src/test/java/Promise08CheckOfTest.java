public final class Promise08CheckOfTest {
    public static void main(String[] args) {
        Due due = new Due("Promise 8, checkOf");
        BlockCard x = new BlockCard();
        due.same("checkOf(65535)", x.checkOf(65535), 101);
        due.same("checkOf(100)", x.checkOf(100), 114);
        for (int content = 0; content < 65536; content++) {
            if (content % 400 == 0) {
                x = new BlockCard();
            }
            due.same("checkOf(" + content + ")", x.checkOf(content), Checks.ofContent(content));
        }
        int[] bad = {-1, 65536, Integer.MIN_VALUE, Integer.MAX_VALUE};
        for (int content : bad) {
            due.same("checkOf(" + content + ")", x.checkOf(content), -1);
        }
        due.end();
    }
}
