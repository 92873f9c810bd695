/** The sentences of LOCK, part 2 of the terms. */
final class SentencesOfTheLock {
    private final Told told;

    SentencesOfTheLock(Told told) {
        this.told = told;
    }

    void all() {
        unlock();
        set();
        clearAndLock();
        setAndLock();
        force();
        failed();
        answers();
    }

    private Run with(String word) {
        return told.small().run("type(" + word + "); LOCK(1) = 1");
    }

    /** LOCKED by "abc", with this TEXT. */
    private Run lockedWith(String text) {
        return with("abc").run("LOCK(4) = 1; type(" + text + ")");
    }

    private void unlock() {
        told.sentence("Promise 9", "42 LOCK, CHOSEN, by a: 0 unlock: LOCKED, and THE TEXT is the WORD: it is not LOCKED.");
        lockedWith("abc").run("LOCK(0) = 1; LOCKED = 0; NOTES = 0; word_is(abc); STATE = CHOSEN");
        for (String text : new String[] {"", "a", "ab", "abcd", "abd", "xbc", "aBc", "abcabc"}) {
            lockedWith(text).run("LOCK(0) = NO; LOCKED = 1; NOTES = 16; word_is(abc)");
        }
        with("abc").run("LOCK(0) = NO; LOCKED = 0; NOTES = 16");
        with("abcdefgh").run("LOCK(4) = 1; type(abcdefg); LOCK(0) = NO; type(abcdefgi); LOCK(0) = NO; type(abcdefgh); LOCK(0) = 1");
        told.small().run("type(abc); LOCK(0) = NO; NOTES = 16");
    }

    private void set() {
        told.sentence("Promise 9", "1 set: no WORD, and THE TEXT has 1 to 8 letters: it is the WORD;");
        told.small().run("type(); LOCK(1) = NO; NOTES = 16; word(-1) = 0");
        told.small().run("type(a); LOCK(1) = 1; NOTES = 0; word_is(a); LOCKED = 0; STATE = CHOSEN");
        told.small().run("type(abcdefgh); LOCK(1) = 1; NOTES = 0; word_is(abcdefgh)");
        told.small().run("type(abcdefghi); LOCK(1) = NO; NOTES = 16; word(-1) = 0");
        told.small().times(200, "write(97)").run("LOCK(1) = NO; NOTES = 16; word(-1) = 0");
        told.sentence("Promise 9", "a WORD, it is not LOCKED, and THE TEXT is the WORD and 1 to 8 letters more: these are the WORD.");
        with("abc").run("LOCK(1) = NO; NOTES = 16; word_is(abc)");
        with("abc").run("type(abcx); LOCK(1) = 1; NOTES = 0; word_is(x); LOCKED = 0");
        with("abc").run("type(abc12345678); LOCK(1) = 1; word_is(12345678)");
        with("abc").run("type(abc123456789); LOCK(1) = NO; NOTES = 16; word_is(abc)");
        with("abcdefgh").run("type(abcdefgh12345678); LOCK(1) = 1; word_is(12345678)");
        with("abcdefgh").run("type(abcdefgh123456789); LOCK(1) = NO; word_is(abcdefgh)");
        with("abc").run("type(abcabc); LOCK(1) = 1; word_is(abc)");
        for (String text : new String[] {"", "a", "ab", "abx", "abxd", "xbcd", "bcd", "d"}) {
            with("abc").run("type(" + text + "); LOCK(1) = NO; NOTES = 16; word_is(abc)");
        }
        lockedWith("abcx").run("LOCK(1) = NO; NOTES = 16; word_is(abc); LOCKED = 1");
        lockedWith("x").run("LOCK(1) = NO; NOTES = 16; word_is(abc); LOCKED = 1");
    }

    private void clearAndLock() {
        told.sentence("Promise 9", "2 clear: not LOCKED, THE TEXT is the WORD: it has none.");
        with("abc").run("LOCK(2) = 1; word(-1) = 0; word(0) = NONE; NOTES = 0; LOCKED = 0; LOCK(2) = NO; NOTES = 16");
        with("abc").run("LOCK(2) = 1; type(z); LOCK(1) = 1; word_is(z)");
        told.sentence("Promise 9", "4 lock: not LOCKED, THE TEXT is the WORD: it is LOCKED.");
        with("abc").run("LOCK(4) = 1; LOCKED = 1; NOTES = 0; word_is(abc); LOCK(4) = NO; NOTES = 16; LOCKED = 1");
        for (String text : new String[] {"", "a", "ab", "abcd", "abd", "xbc"}) {
            told.sentence("Promise 9", "2 clear: not LOCKED, THE TEXT is the WORD: it has none.");
            with("abc").run("type(" + text + "); LOCK(2) = NO; NOTES = 16; word_is(abc)");
            told.sentence("Promise 9", "4 lock: not LOCKED, THE TEXT is the WORD: it is LOCKED.");
            with("abc").run("type(" + text + "); LOCK(4) = NO; NOTES = 16; LOCKED = 0");
        }
        told.sentence("Promise 9", "2 clear: not LOCKED, THE TEXT is the WORD: it has none.");
        lockedWith("abc").run("LOCK(2) = NO; NOTES = 16; word_is(abc); LOCKED = 1");
    }

    private void setAndLock() {
        told.sentence("Promise 9", "5: as 1, LOCKED then.");
        told.small().run("type(); LOCK(5) = NO; NOTES = 16; LOCKED = 0");
        told.small().run("type(a); LOCK(5) = 1; NOTES = 0; word_is(a); LOCKED = 1");
        told.small().run("type(abcdefgh); LOCK(5) = 1; word_is(abcdefgh); LOCKED = 1");
        told.small().run("type(abcdefghi); LOCK(5) = NO; NOTES = 16; word(-1) = 0; LOCKED = 0");
        with("abc").run("LOCK(5) = NO; NOTES = 16; word_is(abc); LOCKED = 0");
        with("abc").run("type(abcx); LOCK(5) = 1; word_is(x); LOCKED = 1");
        with("abc").run("type(abc123456789); LOCK(5) = NO; word_is(abc); LOCKED = 0");
        with("abc").run("type(x); LOCK(5) = NO; word_is(abc); LOCKED = 0");
        lockedWith("abcx").run("LOCK(5) = NO; NOTES = 16; word_is(abc); LOCKED = 1");
    }

    private void force() {
        told.sentence("Promise 9", "8 force: LOCKED: all GROUPS are to be erased, it has no WORD, it is not LOCKED: WRITING.");
        told.small().run("LOCK(8) = NO; NOTES = 16; STATE = CHOSEN; TO_BE_ERASED = 0");
        with("abc").run("LOCK(8) = NO; NOTES = 16; STATE = CHOSEN; word_is(abc); TO_BE_ERASED = 0");
        lockedWith("").run("LOCK(8) = 3; NOTES = 0; STATE = WRITING; word(-1) = 0; LOCKED = 0; TO_BE_ERASED = 3");
        lockedWith("abc").run("LOCK(8) = 3; STATE = WRITING; word(-1) = 0; LOCKED = 0; LOCK(8) = NONE; NOTES = 2");
        told.small().run("put(0, 1); put(7, 2); type(k); LOCK(5); LOCK(8) = 3; FILLED = 2; tick(2); FILLED = 1; tick(3); FILLED = 1;"
            + "STATE = WRITING; tick(1); FILLED = 0; STATE = CHOSEN; latest_are()");
        // none had a TICK yet, also behind an erasing that was cut
        told.small().run("type(k); LOCK(1); erase(0, 7); tick(1); power(0); toStandby(); CHOOSE(1); LOCK(8) = 3; tick(1); torn_are(0, 1, 2);"
            + "TO_BE_ERASED = 3; RESET(0); LOCKED = 0; torn_are(0, 1, 2)");
        lockedWith("").run("LOCK(8) = 3; power(0); torn_are(); word(-1) = 0; power(1); LOCKED = 0");
    }

    private void failed() {
        told.sentence("Promise 9", "Others, or if it is not so (without a WORD THE TEXT is it never): NOTE 16, answer NO.");
        for (int a : new int[] {3, 6, 7, 9, 10, 12, 16, 17, 24, 256, 65528, 65535}) {
            with("abc").run("LOCK(" + a + ") = NO; NOTES = 16; word_is(abc); LOCKED = 0; STATE = CHOSEN");
            lockedWith("abc").run("LOCK(" + a + ") = NO; NOTES = 16; word_is(abc); LOCKED = 1; STATE = CHOSEN");
        }
        told.small().run("type(); LOCK(4) = NO; NOTES = 16; LOCKED = 0");
        told.small().run("type(); LOCK(2) = NO; NOTES = 16");
        told.small().run("type(); LOCK(0) = NO; NOTES = 16");
        told.small().run("type(a); LOCK(1); LOCK(2) = 1; type(); LOCK(4) = NO; NOTES = 16; LOCKED = 0; LOCK(2) = NO; LOCK(0) = NO");
    }

    private void answers() {
        told.sentence("Promise 9", "Answer 1, of 8 how many GROUPS. (THE TEXT stays.)");
        told.small().run("type(abc); LOCK(1) = 1; TEXT = 3; LOCK(4) = 1; TEXT = 3; LOCK(0) = 1; TEXT = 3; LOCK(2) = 1; TEXT = 3;"
            + "LOCK(5) = 1; TEXT = 3; word_is(abc); LOCK(8) = 3; TEXT = 3; tick(6); LOCK(1) = 1; word_is(abc)");
        told.small().run("type(ab); LOCK(1) = 1; type(abcd); LOCK(1) = 1; word_is(cd); TEXT = 4; LOCK(4) = NO; TEXT = 4; wipe() = 4");
        told.card().run("make(4, 8, 0, 0); toChosen(); type(k); LOCK(5) = 1; LOCK(8) = 1");
        told.card().run("make(64, 1, 0, 0); toChosen(); type(k); LOCK(5) = 1; LOCK(8) = 64");
        told.card().run("make(9, 8, 0, 0); toChosen(); type(k); LOCK(5) = 1; LOCK(8) = 2");
        told.card().run("make(64, 7, 0, 0); toChosen(); type(k); LOCK(5) = 1; LOCK(8) = 10");
        told.card().run("toChosen(); type(k); LOCK(5) = 1; LOCK(8) = 8");
    }
}
