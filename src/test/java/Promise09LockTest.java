/** LOCK. */
public final class Promise09LockTest {
    private static final Due due = new Due("Promise 9, locking");

    public static void main(String[] args) {
        set();
        setAnew();
        setAndLock();
        lockAndUnlock();
        clear();
        force();
        others();
        whatIsLeftWhenLocked();
        due.end();
    }

    private static BlockCard with(String word) {
        BlockCard x = Cards.chosen();
        Cards.type(x, word);
        x.tell(42, 1);
        return x;
    }

    private static void refused(String call, BlockCard x, int how) {
        String word = Cards.word(x);
        int locked = x.count(7);
        due.same(call, x.tell(42, how), -2);
        due.same(call + ": NOTES", x.count(8), 16);
        due.same(call + ": the WORD stays", Cards.word(x), word);
        due.same(call + ": LOCKED stays", x.count(7), locked);
        due.same(call + ": STATE", x.count(2), 4);
        x.tell(13, 1);
    }

    private static void set() {
        BlockCard x = Cards.chosen();
        refused("set by an empty TEXT", x, 1);
        Cards.type(x, "123456789");
        refused("set by nine letters", x, 1);
        Cards.type(x, "12345678");
        due.same("set by eight", x.tell(42, 1), 1);
        due.same("the WORD", Cards.word(x), "12345678");
        due.same("not LOCKED", x.count(7), 0);
        due.same("NOTES", x.count(8), 0);
        due.same("THE TEXT stays", x.count(14), 8);
        x = with("a");
        due.same("the WORD", Cards.word(x), "a");
    }

    private static void setAnew() {
        BlockCard x = with("ab");
        refused("THE TEXT is the WORD and no more", x, 1);
        Cards.type(x, "a");
        refused("THE TEXT is shorter", x, 1);
        Cards.type(x, "axcd");
        refused("THE TEXT begins otherwise", x, 1);
        Cards.type(x, "xbcd");
        refused("THE TEXT begins otherwise", x, 1);
        Cards.type(x, "ab123456789");
        refused("nine letters more", x, 1);
        Cards.type(x, "ab12345678");
        due.same("eight letters more", x.tell(42, 1), 1);
        due.same("the WORD", Cards.word(x), "12345678");
        Cards.type(x, "12345678z");
        due.same("one letter more", x.tell(42, 1), 1);
        due.same("the WORD", Cards.word(x), "z");
        due.same("word(1)", x.word(1), -4);
        Cards.type(x, "z");
        x.tell(42, 4);
        Cards.type(x, "zq");
        refused("set when LOCKED", x, 1);
        refused("set and lock when LOCKED", x, 5);
    }

    private static void setAndLock() {
        BlockCard x = Cards.chosen();
        refused("set and lock by an empty TEXT", x, 5);
        Cards.type(x, "123456789");
        refused("set and lock by nine letters", x, 5);
        Cards.type(x, "ab");
        due.same("set and lock", x.tell(42, 5), 1);
        due.same("LOCKED", x.count(7), 1);
        due.same("the WORD", Cards.word(x), "ab");
        x.tell(42, 0);
        refused("THE TEXT is the WORD and no more", x, 5);
        Cards.type(x, "abc");
        due.same("set anew and lock", x.tell(42, 5), 1);
        due.same("LOCKED", x.count(7), 1);
        due.same("the WORD", Cards.word(x), "c");
    }

    private static void lockAndUnlock() {
        BlockCard x = Cards.chosen();
        refused("lock without a WORD", x, 4);
        refused("unlock without a WORD", x, 0);
        Cards.type(x, "ab");
        refused("lock without a WORD, by a TEXT", x, 4);
        x = with("ab");
        refused("unlock when it is not LOCKED", x, 0);
        String[] wrong = {"", "a", "abc", "ba", "aB", "abab"};
        for (String letters : wrong) {
            Cards.type(x, letters);
            refused("lock by '" + letters + "'", x, 4);
        }
        Cards.type(x, "ab");
        due.same("lock", x.tell(42, 4), 1);
        due.same("LOCKED", x.count(7), 1);
        refused("lock when LOCKED", x, 4);
        for (String letters : wrong) {
            Cards.type(x, letters);
            refused("unlock by '" + letters + "'", x, 0);
        }
        Cards.type(x, "ab");
        due.same("unlock", x.tell(42, 0), 1);
        due.same("not LOCKED", x.count(7), 0);
        due.same("the WORD stays", Cards.word(x), "ab");
    }

    private static void clear() {
        BlockCard x = Cards.chosen();
        refused("clear without a WORD", x, 2);
        x = with("ab");
        Cards.type(x, "a");
        refused("clear by another TEXT", x, 2);
        Cards.type(x, "ab");
        x.tell(42, 4);
        refused("clear when LOCKED", x, 2);
        x.tell(42, 0);
        due.same("clear", x.tell(42, 2), 1);
        due.same("no WORD", x.word(-1), 0);
        due.same("word(0)", x.word(0), -4);
        refused("clear again", x, 2);
        x.power(0);
        x.power(1);
        due.same("not LOCKED behind POWER ON", x.count(7), 0);
    }

    private static void force() {
        BlockCard x = Cards.chosen();
        refused("force without a WORD", x, 8);
        x = with("ab");
        refused("force when it is not LOCKED", x, 8);
        for (int b = 0; b < 4; b++) {
            Cards.put(x, b * 10, b);
        }
        x.tell(42, 4);
        x.wipe();
        due.same("force", x.tell(42, 8), 8);
        due.same("STATE", x.count(2), 7);
        due.same("no WORD", x.word(-1), 0);
        due.same("not LOCKED", x.count(7), 0);
        due.same("count(10)", x.count(10), 8);
        due.same("count(17)", x.count(17), 4);
        x.tick(15);
        due.same("STATE", x.count(2), 7);
        x.tick(1);
        due.same("STATE", x.count(2), 4);
        due.same("count(17)", x.count(17), 0);
        due.same("latest(0)", x.latest(0), -4);
        due.same("NOTES", x.count(8), 0);
        x = Cards.chosen(10, 4);
        Cards.type(x, "k");
        x.tell(42, 5);
        due.same("force, the last GROUP has fewer", x.tell(42, 8), 3);
        x.tick(1);
        x.power(0);
        due.same("TORN", x.count(11), 4);
        BlockCard y = Cards.chosen(9, 4);
        Cards.type(y, "k");
        y.tell(42, 5);
        due.same("force, the last GROUP has one", y.tell(42, 8), 3);
        x.power(1);
        due.same("not LOCKED", x.count(7), 0);
    }

    private static void others() {
        int[] hows = {3, 6, 7, 9, 10, 16, 256, 65535};
        for (int how : hows) {
            BlockCard x = with("ab");
            refused("LOCK by " + how, x, how);
            x.tell(42, 4);
            refused("LOCK by " + how + " when LOCKED", x, how);
        }
    }

    private static void whatIsLeftWhenLocked() {
        BlockCard x = with("ab");
        x.tell(23, 2);
        x.tell(42, 4);
        due.same("CHOOSE another", x.tell(7, 9), -4);
        due.same("STANDBY", x.count(2), 3);
        due.same("CHOOSE", x.tell(7, 1), 1);
        due.same("COUNT when LOCKED", x.tell(23, 4), -4);
        due.same("tune() when LOCKED", x.tune(), -4);
        due.same("POINT stays", x.count(6), 3);
        due.same("STATUS", x.tell(13, 1), 1024 + 128 + 2);
        due.same("unlock", x.tell(42, 0), 1);
        due.same("SEND", x.tell(18, 0), 0);
        due.same("the COUNT stayed", x.count(16), 2);
    }
}
