/** The sentences of part 2 of the terms: a COMMAND is SENT. */
final class SentencesOfCommands {
    private static final int[] COMMANDS = {0, 1, 2, 3, 6, 7, 12, 13, 17, 18, 21, 22, 23, 24, 25, 32, 33, 38, 42};
    private static final int[] STARRED = {6, 17, 18, 21, 22, 23, 24, 25, 32, 33, 38};
    private static final String[] STREAMS = {"SEND_ONE", "SEND_MANY", "TAKE_ONE", "TAKE_MANY"};

    private final Told told;

    SentencesOfCommands(Told told) {
        this.told = told;
    }

    void all() {
        ahead();
        brokenOff();
        wakeToChoose();
        status();
        switchTuneCount();
        streams();
        stopAndHowMany();
        fromAndTo();
        erase();
    }

    private static boolean has(int[] row, int number) {
        for (int i : row) {
            if (i == number) {
                return true;
            }
        }
        return false;
    }

    /** The STATES that a COMMAND is one in, as the document's rows tell them. */
    private static boolean isOneIn(int command, int state) {
        switch (command) {
            case 0: return true;
            case 1: return state == 0;
            case 2: return state == 1;
            case 3: return state == 2 || state == 3;
            case 7: return state == 3 || state == 4;
            case 13: return state >= 3;
            case 12: return state == 5 || state == 6;
            default: return state == 4;
        }
    }

    private void ahead() {
        told.sentence("Promise 9", "2 A COMMAND is SENT, with a CHECK. Without power: no answer (NONE).");
        told.card().run("send(0, 0, 0) = NONE; tell(0, 0) = NONE; NOTES = 0; power(1); NOTES = 0; send(0, 0, 0) = 0");
        told.card().run("send(0, 0, 1) = NONE; NOTES = 0; power(1); NOTES = 0");
        told.small().run("power(0); STATUS(0) = NONE; LOCK(1) = NONE; RESET(0) = NONE; NOTES = 0; STATE = NONE");
        told.changesNothing("make(8, 3, 2, 7)", "WAKE(0) = NONE");
        told.sentence("Promise 9", "If the CHECK does not fit: NOTE 1, no answer.");
        for (int check = 0; check < 128; check++) {
            boolean fits = check == Checks.ofCommand(17, 5);
            told.small().run("send(17, 5, " + check + ") = " + (fits ? "0; NOTES = 0; STATE = SENDING"
                : "NONE; NOTES = 1; STATE = CHOSEN"));
        }
        for (int state = 0; state <= 7; state++) {
            told.inState(state).run("send(0, 0, 127) = NONE; NOTES = 1; STATE = " + state);
        }
        told.card().run("make(8, 3, 1, 7); power(1); send(1, 0, 0) = NONE; WAKE(0) = 0; send(1, 0, 0) = NONE; WAKE(0) = 1");
        // NOTE 1 alone, of a COMMAND that there is not and of one that is none here
        told.small().run("send(63, 0, 0) = NONE; NOTES = 1; send(1, 0, 0) = NONE; NOTES = 1");
        none();
    }

    private void none() {
        told.sentence("Promise 9", "If it is none of these,");
        for (int command = 0; command < 64; command++) {
            if (!has(COMMANDS, command)) {
                told.small().run("tell(" + command + ", 1) = NONE; NOTES = 2; STATE = CHOSEN");
                told.inState(0).run("tell(" + command + ", 0) = NONE; NOTES = 2; STATE = IDLE");
            }
        }
        told.sentence("Promise 9", "or none in this STATE,");
        for (int command : COMMANDS) {
            for (int state = 0; state <= 7; state++) {
                if (!isOneIn(command, state)) {
                    told.inState(state).run("tell(" + command + ", 1) = NONE; NOTES = 2; STATE = " + state);
                } else {
                    told.inState(state).run("tell(" + command + ", 0); NOTES = " + ownNote(command));
                }
            }
        }
        told.sentence("Promise 9", "or (marked *) the CARD is LOCKED: NOTE 2, no answer.");
        for (int command : COMMANDS) {
            boolean starred = has(STARRED, command);
            if (starred) {
                told.small().run("type(k); LOCK(5) = 1; tell(" + command + ", 1) = NONE; NOTES = 2; STATE = CHOSEN");
                told.small().run("type(k); LOCK(5) = 1; LOCK(0) = 1; tell(" + command + ", 1); STATE");
            }
        }
        told.small().run("type(k); LOCK(5) = 1; CHOOSE(0) = NONE; NOTES = 0; STATE = STANDBY; ADDRESS(0) = 2;"
            + "CHOOSE(2) = 1; STATUS(2) = 1024 + 128; LOCK(4) = NO; NOTES = 16; RESET(0) = 0; WAKE(0) = 1; NAME(0) = 7");
        told.small().run("COUNT(2) = 2; type(k); LOCK(5) = 1; COUNT(5) = NONE; LOCK(0) = 1; SEND_MANY(0); MORE = 2");
    }

    /** What a COMMAND notes by itself, ARGUMENT 0, when it is SENT to a new card in a STATE that it is one in. */
    private static int ownNote(int command) {
        return command == 42 ? 16 : command == 33 || command == 38 ? 8 : 0;
    }

    private void brokenOff() {
        String[] begun = {"FROM(2) = 0;", "FROM(2) = 0; TO(4) = 0;"};
        String[] others = {"CHOOSE(0) = NONE; STATE = STANDBY; NOTES = 8", "CHOOSE(1) = NONE; STATE = CHOSEN; NOTES = 8",
            "SWITCH(5) = 5; LINES = 1; NOTES = 8", "SWITCH(3) = 0; NOTES = 8 + 32", "TUNE(4) = 1; POINT = 4; NOTES = 8",
            "COUNT(2) = 2; NOTES = 8", "SEND_ONE(0) = 0; STATE = SENDING; NOTES = 8", "SEND_MANY(0) = 0; NOTES = 8",
            "TAKE_ONE(0) = 0; STATE = TAKING; NOTES = 8", "TAKE_MANY(0) = 0; NOTES = 8", "HOW_MANY(0) = 0; NOTES = 8",
            "LOCK(9) = NO; NOTES = 8 + 16", "SEND_ONE(8) = NO; NOTES = 8 + 4", "tune() = 3; NOTES = 8"};
        told.sentence("Promise 9", "While something was begun by FROM, TO, any COMMAND that gets so far,");
        for (String begin : begun) {
            for (String other : others) {
                told.small().run(begin + "NOTES = 0;" + other + "; STOP(0); CHOOSE(1); STATUS(1); HOW_MANY(0); NOTES = 0;"
                    + "TO(5) = NO; STATUS(1) = 1024 + 8; ERASE(0) = NO; NOTES = 8");
            }
            told.small().run(begin + "send(22, 0, 0) = NONE; tell(63, 0) = NONE; STOP(0) = NONE; NOTES = 3");
        }
        told.small().run("FROM(2); send(22, 0, 0) = NONE; TO(4) = 0; NOTES = 1; tell(63, 0) = NONE; WAKE(0) = NONE;"
            + "ERASE(0) = 2; NOTES = 3");
        told.sentence("Promise 9", "but 13, 33 behind 32, 38 behind 33, forgets that, with NOTE 8");
        told.small().run("FROM(2) = 0; STATUS(1) = 1024; STATUS(0) = NONE; TO(4) = 0; STATUS(1) = 1024; STATUS(2) = NONE;"
            + "ERASE(0) = 2; NOTES = 0");
        told.small().run("FROM(2) = 0; NOTES = 0; FROM(3) = 0; NOTES = 8; STATUS(1); TO(2) = NO; NOTES = 8");
        told.small().run("FROM(4) = 0; FROM(2) = 0; TO(3) = 0; ERASE(0) = 2; NOTES = 8");
        told.small().run("FROM(2) = 0; TO(4) = 0; FROM(5) = 0; NOTES = 8; ERASE(0) = NO; TO(7) = NO");
        told.small().run("FROM(2) = 0; TO(4) = 0; TO(5) = NO; NOTES = 8; ERASE(0) = NO; STATE = CHOSEN");
        told.small().run("FROM(2) = 0; ERASE(0) = NO; NOTES = 8; TO(4) = NO; STATE = CHOSEN");
        told.small().run("HOW_MANY(0) = 0; CHOOSE(1); SWITCH(1); NOTES = 0");
        // an ERASE that is done uses up what was begun
        told.small().run("FROM(2); TO(4); ERASE(0) = 2; tick(4); HOW_MANY(0) = 0; NOTES = 0; ERASE(0) = NO; NOTES = 8");
        told.small().run("FROM(2); TO(4); power(0); toChosen(); NOTES = 0; ERASE(0) = NO; NOTES = 8");
        told.sentence("Promise 9", "(and is done all the same;");
        told.small().run("FROM(2); COUNT(3) = 3; NOTES = 8; SEND_MANY(1) = 0; STATE = SENDING; NEXT = 1; MORE = 3");
        told.small().run("FROM(2); TO(3); type(k); LOCK(5) = 1; NOTES = 8; LOCKED = 1; word_is(k)");
        told.small().run("FROM(2); CHOOSE(9) = NONE; STATE = STANDBY; NOTES = 8");
        told.small().run("FROM(2); RESET(0) = 0; STATE = IDLE; NOTES = 0");
        told.sentence("Promise 9", "behind 32 is where the last COMMAND that got so far, 13 left out, was a 32 that answered 0,");
        told.small().run("FROM(8) = NO; TO(3) = NO; NOTES = 12");
        told.small().run("FROM(2) = 0; FROM(8) = NO; STATUS(1) = 1024 + 12; TO(3) = NO; STATUS(1) = 1024 + 8");
        told.small().run("FROM(8) = NO; FROM(2) = 0; NOTES = 4; TO(2) = 0");
        told.small().run("FROM(2) = 0; STATUS(1); STATUS(9); STATUS(1); TO(2) = 0; NOTES = 0");
        told.small().run("FROM(2) = 0; HOW_MANY(0); TO(3) = NO");
        told.sentence("Promise 9", "behind 33 likewise). Then:");
        told.small().run("FROM(2); TO(8) = NO; STATUS(1) = 1024 + 4; ERASE(0) = NO; STATUS(1) = 1024 + 8");
        told.small().run("FROM(2); TO(1) = NO; STATUS(1) = 1024 + 8; ERASE(0) = NO; STATUS(1) = 1024 + 8");
        told.small().run("FROM(2); TO(2) = 0; STATUS(1); STATUS(9); ERASE(0) = 1; NOTES = 0");
        told.small().run("FROM(2); TO(2) = 0; HOW_MANY(0); ERASE(0) = NO; NOTES = 8");
    }

    private void wakeToChoose() {
        told.sentence("Promise 9", "0 RESET, in any STATE: answer 0.");
        for (int state = 0; state <= 7; state++) {
            told.inState(state).run("RESET(65535) = 0; STATE = IDLE; NOTES = 0");
        }
        told.small().run("type(k); LOCK(5) = 1; RESET(0) = 0; STATE = IDLE");
        told.sentence("Promise 9", "1 WAKE, IDLE: it is woken once more; if that is more often than IDLENESS: READY,"
            + " answer 1; else answer 0.");
        for (int idleness = 0; idleness <= 9; idleness++) {
            told.card().run("make(8, 3, " + idleness + ", 7); power(1)").times(idleness, "WAKE(9) = 0; STATE = IDLE")
                .run("WAKE(0) = 1; STATE = READY; WAKE(0) = NONE; NOTES = 2");
        }
        told.sentence("Promise 9", "2 NAME, READY: NAMED, answer: its number.");
        told.card().run("make(8, 3, 0, 0); toReady(); NAME(5) = 0; STATE = NAMED; NAME(5) = NONE; NOTES = 2");
        told.card().run("make(8, 3, 0, 65535); toReady(); NAME(5) = 65535; STATE = NAMED");
        told.card().run("toReady(); NAME(0) = 1000");
        told.sentence("Promise 9", "3 ADDRESS, NAMED or STANDBY: ADDRESS is 1 more, STANDBY, answer: ADDRESS.");
        told.inState(2).run("ADDRESS = 0; ADDRESS(77) = 1; ADDRESS = 1; STATE = STANDBY; ADDRESS(0) = 2; STATE = STANDBY;"
            + "ADDRESS = 2; CHOOSE(2) = 1; ADDRESS(0) = NONE; ADDRESS = 2; NOTES = 2");
        told.inState(1).run("ADDRESS(0) = NONE; ADDRESS = 0; STATE = READY");
        told.sentence("Promise 9", "7 CHOOSE, STANDBY: if a is ADDRESS, CHOSEN, answer 1; else no answer.");
        told.inState(3).run("CHOOSE(0) = NONE; STATE = STANDBY; CHOOSE(2) = NONE; STATE = STANDBY; CHOOSE(65535) = NONE;"
            + "STATE = STANDBY; CHOOSE(1) = 1; STATE = CHOSEN; NOTES = 0");
        told.inState(3).run("ADDRESS(0); CHOOSE(1) = NONE; CHOOSE(3) = NONE; STATE = STANDBY; CHOOSE(2) = 1");
        told.sentence("Promise 9", "CHOSEN: if a is not ADDRESS, STANDBY; no answer either way.");
        told.small().run("CHOOSE(1) = NONE; STATE = CHOSEN; CHOOSE(0) = NONE; STATE = STANDBY; NOTES = 0");
        told.small().run("CHOOSE(2) = NONE; STATE = STANDBY; NOTES = 0");
        told.changesNothing("make(8, 3, 0, 7); toChosen(); COUNT(2)", "CHOOSE(1) = NONE");
    }

    private void status() {
        told.sentence("Promise 9", "13 STATUS, STANDBY to WRITING: if a is ADDRESS, answer: 256 times STATE,"
            + " 128 if it is LOCKED, and NOTES, together;");
        for (int state = 0; state <= 7; state++) {
            told.inState(state).run(state < 3 ? "STATUS(0) = NONE; NOTES = 2; STATUS(1) = NONE; STATE = " + state
                : "STATUS(1) = " + 256 * state + "; STATE = " + state + "; NOTES = 0");
        }
        told.small().run("type(k); LOCK(5); STATUS(1) = 1024 + 128; CHOOSE(0); STATUS(1) = 768 + 128; tell(63, 0);"
            + "STATUS(1) = 768 + 128 + 2");
        told.small().run("send(22, 0, 0); tell(63, 0); SEND_ONE(8); ERASE(0); LOCK(9); SWITCH(8); TAKE_ONE(0); give(1, 0);"
            + "STATUS(1) = 1536 + 127");
        told.sentence("Promise 9", "NOTES are 0 then; else no answer.");
        told.small().run("tell(63, 0); STATUS(0) = NONE; NOTES = 2; STATUS(2) = NONE; NOTES = 2; STATUS(65535) = NONE;"
            + "STATUS(1) = 1024 + 2; NOTES = 0; STATUS(1) = 1024");
        told.inState(3).run("ADDRESS(0); STATUS(1) = NONE; STATUS(3) = NONE; STATUS(2) = 768");
        told.changesNothing("make(8, 3, 0, 7); toChosen(); FROM(1); tell(63, 0)", "STATUS(2) = NONE");
        told.changesNothing("make(8, 3, 0, 7); toChosen(); FROM(1); TO(4)", "STATUS(1) = 1024");
    }

    private void switchTuneCount() {
        told.sentence("Promise 9", "6* SWITCH, CHOSEN: SPEED is a by 4, cut, LINES are a modulo 4;");
        for (int a : new int[] {0, 1, 2, 4, 5, 6, 9, 10, 13, 14}) {
            told.small().run("SWITCH(" + a + "); SPEED = " + a / 4 + "; LINES = " + a % 4 + "; NOTES = 0; STATE = CHOSEN");
        }
        told.sentence("Promise 9", "if SPEED would be more than 3, LINES more than 2, or SPEED more than 1 by one line:"
            + " NOTE 32, both stay.");
        for (int a : new int[] {3, 7, 8, 11, 12, 15, 16, 17, 18, 19, 20, 65532, 65533, 65534, 65535}) {
            told.small().run("SWITCH(5) = 5; SWITCH(" + a + ") = 5; SPEED = 1; LINES = 1; NOTES = 32; STATE = CHOSEN");
            told.small().run("SWITCH(14) = 14; SWITCH(" + a + ") = 14; SPEED = 3; LINES = 2; NOTES = 32");
        }
        told.small().run("SWITCH(4) = 4; SPEED = 1; LINES = 0; NOTES = 0; SWITCH(8) = 4; NOTES = 32");
        told.small().run("SWITCH(9) = 9; SWITCH(8) = 9; NOTES = 32; SWITCH(0) = 0; SPEED = 0; LINES = 0");
        told.sentence("Promise 9", "Answer: 4 SPEED and LINES.");
        told.small().run("SWITCH(0) = 0; SWITCH(14) = 14; SWITCH(16) = 14; SWITCH(1) = 1; SWITCH(3) = 1; SWITCH(10) = 10");
        told.sentence("Promise 9", "21* TUNE, CHOSEN: POINT is a modulo 16; answer: 1 if it is in the WINDOW, else 0.");
        told.small().run("TUNE(15) = 1; POINT = 15; TUNE(16) = 1; POINT = 0; TUNE(17); POINT = 1; TUNE(65535); POINT = 15;"
            + "TUNE(65520); POINT = 0");
        told.small().run("TUNE(10) = 1; TUNE(11) = 0; POINT = 11; TUNE(12) = 1; TUNE(27) = 0; POINT = 11; NOTES = 0");
        told.sentence("Promise 9", "23* COUNT, CHOSEN: the next 18 or 25 is for a BLOCKS (0: as many as may be); answer a.");
        for (String many : new String[] {"SEND_MANY", "TAKE_MANY"}) {
            for (int a : new int[] {1, 2, 7, 8, 9, 65535}) {
                told.small().run("COUNT(" + a + ") = " + a + "; STATE = CHOSEN; " + many + "(0) = 0; MORE = " + a);
            }
            told.small().run("COUNT(0) = 0;" + many + "(0) = 0; MORE = NONE");
            told.small().run("COUNT(4); COUNT(0) = 0;" + many + "(0) = 0; MORE = NONE");
            told.small().run("COUNT(0); COUNT(4) = 4; COUNT(2) = 2;" + many + "(0) = 0; MORE = 2");
            told.small().run("COUNT(4); CHOOSE(0); CHOOSE(1); SWITCH(1); HOW_MANY(0);" + many + "(0) = 0; MORE = 4");
        }
    }

    private void streams() {
        told.sentence("Promise 9", "17*, 18* SEND one, many, CHOSEN; 24*, 25* TAKE one, many, CHOSEN: from BLOCK a on:");
        for (String stream : STREAMS) {
            String state = stream.startsWith("SEND") ? "SENDING" : "TAKING";
            told.small().run(stream + "(0) = 0; STATE = " + state + "; NEXT = 0; NOTES = 0");
            told.small().run(stream + "(7) = 0; STATE = " + state + "; NEXT = 7; NOTES = 0");
        }
        told.sentence("Promise 9", "if there is no such BLOCK: NOTE 4, answer NO (COUNT stays).");
        for (String stream : STREAMS) {
            told.small().run(stream + "(8) = NO; NOTES = 4; STATE = CHOSEN; NEXT = NONE");
            told.small().run(stream + "(65535) = NO; NOTES = 4; STATE = CHOSEN");
            told.small().run("COUNT(3);" + stream + "(8) = NO; SEND_MANY(0) = 0; MORE = 3");
            told.small().run("put(1, 5); WELL = 1;" + stream + "(8) = NO; WELL = 1");
        }
        told.sentence("Promise 9", "Else SENDING or TAKING, 17 and 24 for one BLOCK, 18 and 25 for COUNT,"
            + " or as many as may be;");
        told.small().run("SEND_ONE(0); MORE = 1; get() = 65535; STATE = CHOSEN");
        told.small().run("COUNT(3); SEND_ONE(0); MORE = 1; get() = 65535; STATE = CHOSEN");
        told.small().run("COUNT(0); TAKE_ONE(0); MORE = 1; fits(1) = 1; STATE = WRITING");
        told.small().run("COUNT(3); TAKE_ONE(0); MORE = 1; fits(1) = 1; STATE = WRITING");
        told.small().run("COUNT(2); SEND_MANY(0); MORE = 2; get(); STATE = SENDING; get(); STATE = CHOSEN");
        told.small().run("COUNT(2); TAKE_MANY(0); MORE = 2; fits(1); STATE = TAKING; fits(2); STATE = WRITING");
        told.small().run("SEND_MANY(0); MORE = NONE; get(); MORE = NONE").times(7, "STATE = SENDING; get() = 65535")
            .run("STATE = CHOSEN");
        told.small().run("TAKE_MANY(0); MORE = NONE").times(8, "fits(1) = 1; tick(4); STATE = TAKING; MORE = NONE")
            .run("fits(1) = NO; STATE = TAKING");
        told.sentence("Promise 9", "the COUNT is none then, behind each of the four;");
        for (String stream : STREAMS) {
            told.small().run("COUNT(3);" + stream + "(0); STOP(0); STATE = CHOSEN; SEND_MANY(0); MORE = NONE");
            told.small().run("COUNT(3);" + stream + "(0); STOP(0); STATE = CHOSEN; TAKE_MANY(0); MORE = NONE");
        }
        told.sentence("Promise 9", "TAKING: WELL is 0. Answer 0.");
        told.small().run("put(0, 5); WELL = 1; TAKE_ONE(0) = 0; WELL = 0");
        told.small().run("put(0, 5); WELL = 1; TAKE_MANY(0) = 0; WELL = 0");
        told.small().run("put(0, 5); WELL = 1; SEND_ONE(0) = 0; WELL = 1; get() = 5; SEND_MANY(0) = 0; WELL = 1");
    }

    private void stopAndHowMany() {
        told.sentence("Promise 9", "12 STOP, SENDING: CHOSEN, answer 0.");
        told.small().run("SEND_MANY(0); STOP(9) = 0; STATE = CHOSEN; NEXT = NONE; MORE = NONE; NOTES = 0");
        told.small().run("SEND_MANY(0); get(); get(); STOP(0) = 0; STATE = CHOSEN; get() = NO");
        told.sentence("Promise 9", "TAKING: WRITING, if something is LATER, else CHOSEN; answer: how many are LATER.");
        told.inState(6).run("STOP(0) = 0; STATE = CHOSEN; NEXT = NONE");
        told.inState(6).run("fits(1); STOP(0) = 1; STATE = WRITING; later(-1, 0) = 1; NEXT = NONE; fits(2) = NO");
        told.inState(6).run("fits(1); fits(2); STOP(0) = 2; STATE = WRITING; later(-1, 0) = 2; STOP(0) = NONE; NOTES = 2");
        told.inState(6).run("fits(1); tick(3); STOP(0) = 1; STATE = WRITING; tick(1); STATE = CHOSEN; WELL = 1");
        told.inState(6).run("fits(1); tick(4); STOP(0) = 0; STATE = CHOSEN; WELL = 1");
        told.inState(6).run("fits(1); give(2, 0) = 0; STOP(0) = 1; STATE = WRITING; tick(4); STATE = CHOSEN; WELL = 1");
        told.sentence("Promise 9", "22* HOW MANY, CHOSEN: answer: WELL.");
        told.small().run("HOW_MANY(0) = 0; put(0, 1); HOW_MANY(65535) = 1; HOW_MANY(0) = 1; WELL = 1");
        told.small().run("TAKE_MANY(0)").times(8, "fits(1); tick(4)").run("STOP(0) = 0; HOW_MANY(0) = 8; power(0); toChosen();"
            + "HOW_MANY(0) = 8");
        told.small().run("TAKE_MANY(0); fits(1); fits(2); tick(7); power(0); toChosen(); HOW_MANY(0) = 1");
    }

    private void fromAndTo() {
        told.sentence("Promise 9", "32* FROM, 33* TO, CHOSEN: BLOCK a: if there is no such BLOCK: NOTE 4, answer NO,"
            + " all that was begun is forgotten;");
        told.small().run("FROM(7) = 0; NOTES = 0; TO(7) = 0; NOTES = 0");
        told.small().run("FROM(8) = NO; NOTES = 4; FROM(65535) = NO; NOTES = 4");
        told.small().run("TO(8) = NO; NOTES = 4; TO(65535) = NO; NOTES = 4");
        told.small().run("FROM(2); TO(8) = NO; NOTES = 4; STATUS(1); HOW_MANY(0); NOTES = 0; TO(3) = NO; NOTES = 8");
        told.small().run("FROM(2); FROM(8) = NO; STATUS(1) = 1024 + 12; HOW_MANY(0); NOTES = 0; TO(3) = NO; NOTES = 8");
        told.small().run("FROM(2); TO(3); TO(8) = NO; STATUS(1) = 1024 + 12; ERASE(0) = NO; NOTES = 8");
        told.small().run("FROM(2); TO(3); FROM(8) = NO; STATUS(1) = 1024 + 12; ERASE(0) = NO; NOTES = 8");
        told.sentence("Promise 9", "then 33 not behind 32, or a less than FROM: NOTE 8, answer NO, forgotten. Answer 0.");
        told.small().run("TO(0) = NO; NOTES = 8; STATE = CHOSEN");
        told.small().run("FROM(0) = 0; TO(0) = 0; NOTES = 0; ERASE(0) = 1");
        told.small().run("FROM(4) = 0; TO(4) = 0; NOTES = 0; ERASE(0) = 1");
        told.small().run("FROM(4) = 0; TO(3) = NO; NOTES = 8; STATUS(1); HOW_MANY(0); NOTES = 0; TO(5) = NO; NOTES = 8");
        told.small().run("FROM(4) = 0; TO(3) = NO; STATUS(1); ERASE(0) = NO; NOTES = 8; STATE = CHOSEN");
        told.small().run("FROM(7) = 0; TO(0) = NO; FROM(0) = 0; TO(7) = 0; ERASE(0) = 3");
        told.small().run("FROM(1) = 0; TO(2) = 0; TO(2) = NO; NOTES = 8; STATUS(1); HOW_MANY(0); NOTES = 0; ERASE(0) = NO");
    }

    private void erase() {
        told.sentence("Promise 9", "38* ERASE, CHOSEN: not behind 33: NOTE 8, answer NO.");
        told.small().run("ERASE(0) = NO; NOTES = 8; STATE = CHOSEN; TO_BE_ERASED = 0");
        told.small().run("FROM(0); ERASE(0) = NO; NOTES = 8; STATE = CHOSEN; TO_BE_ERASED = 0");
        told.small().run("FROM(0); TO(1); ERASE(0) = 1; tick(2); ERASE(0) = NO; NOTES = 8; STATE = CHOSEN");
        told.sentence("Promise 9", "Else all GROUPS from that of FROM to that of TO are to be erased (none had a TICK yet):"
            + " WRITING; answer: how many GROUPS.");
        int[][] rows = {{0, 0, 1}, {0, 2, 1}, {2, 2, 1}, {2, 3, 2}, {3, 5, 1}, {5, 6, 2}, {6, 7, 1}, {7, 7, 1}, {0, 7, 3}};
        for (int[] r : rows) {
            told.small().run("FROM(" + r[0] + "); TO(" + r[1] + "); ERASE(65535) = " + r[2] + "; STATE = WRITING; TO_BE_ERASED = "
                + r[2] + "; NOTES = 0").run("tick(" + (2 * r[2] - 1) + "); STATE = WRITING; tick(1); STATE = CHOSEN");
        }
        told.small().run("put(2, 1); put(3, 2); put(5, 3); put(6, 4); erase(3, 4); tick(2);"
            + "contents_are(65535, 65535, 1, 65535, 65535, 65535, 4, 65535)");
        told.small().run("put(2, 1); put(3, 2); erase(2, 3); tick(4); FILLED = 0");
        told.small().run("erase(0, 7); power(0); torn_are()");
        told.small().run("erase(0, 7); tick(1); RESET(0); torn_are(0, 1, 2); toChosen(); erase(0, 7); tick(1); torn_are(0, 1, 2);"
            + "TO_BE_ERASED = 3; tick(1); torn_are(); TO_BE_ERASED = 2");
        told.card().run("make(64, 8, 0, 0); toChosen(); erase(0, 63); TO_BE_ERASED = 8; tick(16); STATE = CHOSEN");
        told.card().run("make(64, 1, 0, 0); toChosen(); erase(0, 63); TO_BE_ERASED = 64; tick(127); STATE = WRITING; tick(1);"
            + "STATE = CHOSEN");
    }
}
