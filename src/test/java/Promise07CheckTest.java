public final class Promise07CheckTest {
    public static void main(String[] args) {
        Due due = new Due("Promise 7, check");
        BlockCard x = new BlockCard();
        due.same("check(0, 0)", x.check(0, 0), 0);
        due.same("check(0, 1)", x.check(0, 1), 9);
        due.same("check(17, 10)", x.check(17, 10), 40);
        for (int command = 0; command < 64; command++) {
            x = new BlockCard();
            for (int argument = 0; argument < 65536; argument += argument < 40 ? 1 : 1031) {
                due.same("check(" + command + ", " + argument + ")", x.check(command, argument),
                    Checks.ofCommand(command, argument));
            }
            due.same("check(" + command + ", 65535)", x.check(command, 65535), Checks.ofCommand(command, 65535));
        }
        int[] badCommands = {-1, 64, Integer.MIN_VALUE, Integer.MAX_VALUE};
        int[] badArguments = {-1, 65536, Integer.MIN_VALUE, Integer.MAX_VALUE};
        for (int command : badCommands) {
            due.same("check(" + command + ", 0)", x.check(command, 0), -1);
        }
        for (int argument : badArguments) {
            due.same("check(0, " + argument + ")", x.check(0, argument), -1);
        }
        due.same("count(2)", x.count(2), -4);
        due.end();
    }
}
