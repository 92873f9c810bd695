/** The sentences of 'What it is' and of the terms ahead of the COMMANDS. */
final class SentencesOfTheCard {
    private final Told told;

    SentencesOfTheCard(Told told) {
        this.told = told;
    }

    void all() {
        told.asksForNothing("What it is", "A small card of blocks:", "1 THE CARD has");
        told.asksForNothing("What it is", "what later calls answer is free.", ".");
        blocks();
        groups();
        calls();
        whatStays();
        whatIsByPower();
        powerOnAndReset();
        resetIsACut();
        textHeatTicks();
        checks();
        window();
        notes();
    }

    private void blocks() {
        told.sentence("Promise 15", "BLOCKS 0 to B - 1");
        for (int b : new int[] {4, 5, 63, 64}) {
            told.card().run("make(" + b + ", 4, 0, 0); block(0, 0) = 65535; block(-1, 0) = BAD");
            told.card().run("make(" + b + ", 4, 0, 0); block(" + (b - 1) + ", 0) = 65535; block(" + b + ", 0) = BAD");
            told.card().run("make(" + b + ", 4, 0, 0); toChosen(); put(" + (b - 1) + ", 5); block(" + (b - 1)
                + ", 0) = 5; TAKE_ONE(" + b + ") = NO");
        }
        told.sentence("Promise 2", "(B 4 to 64; 32 at first)");
        told.card().run("B = 32; block(31, 0) = 65535; block(32, 0) = BAD");
        told.card().run("make(4, 4, 2, 1000) = 4; B = 4");
        told.card().run("make(64, 4, 2, 1000) = 64; B = 64");
        told.card().run("make(3, 4, 2, 1000) = BAD; B = 32");
        told.card().run("make(65, 4, 2, 1000) = BAD; B = 32");
        told.sentence("Promise 11", "each with a CONTENT (0 to 65535; 65535 at first) or TORN;");
        told.card().run("make(4, 1, 0, 0); contents_are(65535, 65535, 65535, 65535); torn_are(); FILLED = 0");
        told.small().run("put(0, 0); put(1, 65535); put(2, 65534); block(0, 0) = 0; block(1, 0) = 65535;"
            + "block(2, 0) = 65534; FILLED = 2");
        told.inState(6).run("give(65535, 101) = 1; give(0, 0) = 1");
        told.inState(6).run("give(65536, 0) = BAD; give(-1, 0) = BAD; later_are()");
        told.small().run("put(0, 9); TAKE_ONE(0); fits(8); tick(1); power(0); block(0, 1) = 1; block(0, 0) = 65535");
    }

    private void groups() {
        told.sentence("Promise 15", "GROUPS of G BLOCKS side by side from 0 on");
        for (int g = 1; g <= 8; g++) {
            Run x = told.card().run("make(64, " + g + ", 0, 0)");
            for (int b = 0; b < 64; b++) {
                x.run("block(" + b + ", 2) = " + b / g);
            }
        }
        told.sentence("Promise 2", "(G 1 to 8; 4 at first; the last may have fewer)");
        told.card().run("G = 4; block(3, 2) = 0; block(4, 2) = 1");
        told.card().run("make(8, 1, 0, 0) = 8; G = 1; block(7, 2) = 7");
        told.card().run("make(8, 8, 0, 0) = 8; G = 8; block(7, 2) = 0");
        told.card().run("make(8, 0, 0, 0) = BAD; G = 4; B = 32");
        told.card().run("make(8, 9, 0, 0) = BAD; G = 4; B = 32");
        told.card().run("make(4, 8, 0, 0); toChosen(); put(3, 1); erase(3, 3); TO_BE_ERASED = 1; tick(2);"
            + "STATE = CHOSEN; contents_are(65535, 65535, 65535, 65535)");
        told.card().run("make(5, 4, 0, 0); toChosen(); put(3, 1); put(4, 2); erase(4, 4); TO_BE_ERASED = 1; tick(2);"
            + "STATE = CHOSEN; contents_are(65535, 65535, 65535, 1, 65535)");
        told.small().run("erase(0, 7); TO_BE_ERASED = 3; tick(5); power(0); torn_are(6, 7)");
    }

    private void calls() {
        told.sentence("Promise 13", "An object is used for at most 512 calls after it has been made");
        told.card().times(511, "tick(400)").run("tick(400) = 204800");
        told.card().run("make(64, 8, 0, 0); power(1); WAKE(0); NAME(0)").times(505, "ADDRESS(0)")
            .run("ADDRESS(0) = 506; CHOOSE(505) = NONE; CHOOSE(506) = 1");
    }

    private void whatStays() {
        told.sentence("Promise 17", "It has a WORD (1 to 8 letters) or none,");
        told.small().run("word(-1) = 0; word(0) = NONE");
        told.small().run("type(); LOCK(1) = NO; word(-1) = 0");
        told.small().run("type(a); LOCK(1) = 1; word_is(a); word(1) = NONE");
        told.small().run("type(abcdefgh); LOCK(1) = 1; word_is(abcdefgh); word(8) = NONE");
        told.small().run("type(abcdefghi); LOCK(1) = NO; word(-1) = 0");
        told.sentence("Promise 3", "WELL (how many), all of which stay whatever happens to its power;");
        String full = "type(key); LOCK(1) = 1; TAKE_MANY(0); fits(5); tick(4); fits(6); tick(4); fits(7); tick(1);";
        String stays = "word_is(key); WELL = 2; block(0, 0) = 5; block(1, 0) = 6; torn_are(2); latest_are(1, 0);";
        told.small().run(full + "power(0);" + stays + "power(1);" + stays + "tick(9);" + stays);
        told.small().run(full + "RESET(0);" + stays + "power(0);" + stays + "power(1);" + stays);
        told.small().run("power(0); power(1); word(-1) = 0; WELL = 0; contents_are(65535, 65535, 65535, 65535, 65535,"
            + " 65535, 65535, 65535)");
    }

    private void whatIsByPower() {
        told.sentence("Promise 19", "and by power alone: a STATE (0 IDLE, 1 READY, 2 NAMED, 3 STANDBY, 4 CHOSEN,"
            + " 5 SENDING, 6 TAKING, 7 WRITING)");
        told.card().run("power(1); STATE = 0; WAKE(0); STATE = 0; WAKE(0); STATE = 0; WAKE(0); STATE = 1; NAME(0);"
            + "STATE = 2; ADDRESS(0); STATE = 3; CHOOSE(1); STATE = 4; SEND_ONE(0); STATE = 5; STOP(0); TUNE(3);"
            + "TAKE_ONE(0); STATE = 6; fits(1); STATE = 7; tick(4); STATE = 4");
        for (int state = 0; state <= 7; state++) {
            told.inState(state).run("STATE = " + state + "; power(0); STATE = NONE; power(1); STATE = 0");
        }
        told.sentence("Promise 19", "ADDRESS, LINES (0: one, 1: four, 2: eight), SPEED (0 to 3), POINT (0 to 15),");
        told.small().run("ADDRESS = 1; LINES = 0; SWITCH(1); LINES = 1; SWITCH(2); LINES = 2; SWITCH(3); LINES = 2");
        told.small().run("SPEED = 0; SWITCH(14); SPEED = 3; SWITCH(18); SPEED = 3; TUNE(0); POINT = 0; TUNE(15);"
            + "POINT = 15; TUNE(16); POINT = 0");
        told.small().run("SWITCH(14); TUNE(15); power(0); ADDRESS = 0; LINES = 0; SPEED = 0; POINT = 0");
        told.small().run("SWITCH(0); TAKE_ONE(0); fits(1); tick(3); STATE = WRITING; tick(1); STATE = CHOSEN");
        told.small().run("SWITCH(1); TAKE_ONE(0); fits(1); tick(1); STATE = WRITING; tick(1); STATE = CHOSEN");
        told.small().run("SWITCH(2); TAKE_ONE(0); fits(1); STATE = WRITING; tick(1); STATE = CHOSEN");
        told.sentence("Promise 19", "whether it is LOCKED, NOTES (bits),");
        told.small().run("LOCKED = 0; type(k); LOCK(5); LOCKED = 1; LOCK(0); LOCKED = 0");
        told.small().run("send(22, 0, 0); NOTES = 1; send(22, 0, 0); NOTES = 1; tell(63, 0); NOTES = 3;"
            + "tell(62, 0); NOTES = 3; send(22, 0, 0); NOTES = 3; power(0); NOTES = 0");
        told.sentence("Promise 18", "LATER (two BLOCKS at most that were taken and are not written yet),");
        told.inState(6).run("later(-1, 0) = 0; fits(5) = 1; later(-1, 0) = 1; fits(6) = 1; later(-1, 0) = 2;"
            + "fits(7) = FULL; later_are(0, 5, 0, 1, 6, 0); tick(4); later_are(1, 6, 0); fits(7) = 1;"
            + "later_are(1, 6, 0, 2, 7, 0); power(0); later_are()");
        told.sentence("Promise 19", "what is to be erased, and so on.");
        told.small().run("TO_BE_ERASED = 0; erase(0, 7); TO_BE_ERASED = 3; power(0); TO_BE_ERASED = 0; power(1);"
            + "TO_BE_ERASED = 0; toChosen(); tick(9); STATE = CHOSEN");
        told.sentence("Promise 19", "Without power it has no STATE.");
        told.card().run("STATE = NONE; power(1); STATE = IDLE; power(0); STATE = NONE; tick(1); STATE = NONE");
        told.small().run("STATE = CHOSEN; make(8, 3, 0, 7); STATE = NONE");
    }

    private void powerOnAndReset() {
        String[] starts = {"power(0); power(1);", "RESET(0);"};
        for (String start : starts) {
            told.sentence("Promise 3", "POWER ON, and RESET: IDLE, ADDRESS 0,");
            for (int state = 1; state <= 7; state++) {
                told.inState(state).run(start + "STATE = IDLE; ADDRESS = 0");
            }
            told.small().run("CHOOSE(0); ADDRESS(0) = 2;" + start + "ADDRESS = 0; toStandby(); ADDRESS = 1");
            told.sentence("Promise 3", "LINES, SPEED, POINT 0,");
            told.small().run("SWITCH(14) = 14; TUNE(15);" + start + "LINES = 0; SPEED = 0; POINT = 0");
            told.small().run("SWITCH(5) = 5; TUNE(1);" + start + "LINES = 0; SPEED = 0; POINT = 0");
            told.sentence("Promise 3", "LOCKED if it has a WORD,");
            told.small().run("type(k); LOCK(1) = 1; LOCKED = 0;" + start + "LOCKED = 1");
            told.small().run("type(k); LOCK(5) = 1; LOCKED = 1;" + start + "LOCKED = 1");
            told.small().run("type(k); LOCK(1) = 1; LOCK(2) = 1;" + start + "LOCKED = 0");
            told.small().run("type(k);" + start + "LOCKED = 0");
            told.small().run("type(k); LOCK(5) = 1; LOCK(8) = 3;" + start + "LOCKED = 0");
            told.sentence("Promise 3", "NOTES 0,");
            told.small().run("send(22, 0, 0); tell(63, 0); SEND_ONE(8); ERASE(0); LOCK(9); SWITCH(8); TAKE_ONE(0);"
                + "give(1, 0); NOTES = 127;" + start + "NOTES = 0");
            told.small().run("FROM(0) = 0;" + start + "NOTES = 0");
            told.sentence("Promise 3", "nothing LATER,");
            told.inState(6).run("fits(5); fits(6);" + start + "later_are(); toChosen(); tick(9); WELL = 0; FILLED = 0");
            told.inState(7).run("tick(3);" + start + "later_are(); toChosen(); TAKE_ONE(4); fits(9); later_are(4, 9, 0)");
            told.sentence("Promise 3", "nothing to be erased,");
            told.small().run("put(7, 1); erase(0, 7); tick(1);" + start
                + "TO_BE_ERASED = 0; toChosen(); tick(9); FILLED = 1; erase(3, 3); tick(1); STATE = WRITING");
            told.sentence("Promise 3", "no COUNT,");
            told.small().run("COUNT(3) = 3;" + start + "toChosen(); SEND_MANY(0) = 0; MORE = NONE");
            told.sentence("Promise 3", "woken 0 times.");
            for (int woken = 0; woken <= 3; woken++) {
                told.card().run("power(1)").times(woken, "WAKE(0)")
                    .run(start + "WAKE(0) = 0; WAKE(0) = 0; STATE = IDLE; WAKE(0) = 1");
            }
        }
    }

    private void resetIsACut() {
        told.sentence("Promise 9", "(RESET is a CUT ahead of that, for what is being written, erased.)");
        told.inState(6).run("fits(5); fits(6); RESET(0) = 0; torn_are()");
        told.inState(6).run("fits(5); fits(6); tick(1); RESET(0) = 0; torn_are(0)");
        told.inState(6).run("fits(5); fits(6); tick(4); RESET(0) = 0; torn_are(); block(0, 0) = 5");
        told.inState(6).run("fits(5); fits(6); tick(5); RESET(0) = 0; torn_are(1); block(0, 0) = 5");
        told.small().run("erase(3, 7); RESET(0) = 0; torn_are()");
        told.small().run("erase(3, 7); tick(1); RESET(0) = 0; torn_are(3, 4, 5)");
        told.small().run("erase(3, 7); tick(2); RESET(0) = 0; torn_are()");
        told.small().run("erase(3, 7); tick(3); RESET(0) = 0; torn_are(6, 7)");
    }

    private void textHeatTicks() {
        told.sentence("Promise 5", "THE TEXT is letters (200 at most);");
        told.card().run("TEXT = 0").times(199, "write(65)").run("write(66) = 200; TEXT = 200; write(67) = FULL; TEXT = 200");
        told.sentence("Promise 4", "HEAT is 0 to 15 (0 at first);");
        told.card().run("HEAT = 0; warm(15) = 0; HEAT = 15; warm(16) = BAD; HEAT = 15; warm(0) = 15; HEAT = 0;"
            + "warm(-1) = BAD; HEAT = 0");
        told.sentence("Promise 13", "TICKS go on by tick().");
        told.card().run("TICKS = 0; toChosen(); tune(); warm(1); write(65); wipe(); SEND_ONE(0); get(); TAKE_ONE(0);"
            + "fits(1); TICKS = 0; tick(4) = 4; TICKS = 4; RESET(0); power(0); power(1); TICKS = 4; tick(1) = 5");
    }

    private void checks() {
        told.sentence("Promise 7", "CHECK of a COMMAND c (0 to 63) with an ARGUMENT a (0 to 65535):"
            + " what int v is in the end, 0 at first:");
        told.card().run("check(0, 0) = 0; check(63, 65535) = " + Checks.ofCommand(63, 65535));
        told.card().run("check(0, 65535) = " + Checks.ofCommand(0, 65535) + "; check(63, 0) = " + Checks.ofCommand(63, 0));
        told.card().run("check(-1, 0) = BAD; check(64, 0) = BAD; check(0, -1) = BAD; check(0, 65536) = BAD");
        told.sentence("Promise 7", "for each bit b (0 or 1) of the 22 bits of 65536 * c + a, bit 21 first, bit 0 last:"
            + " v = (v << 1 & 127) ^ 9 * (b ^ v >> 6), by v as it was ahead of that.");
        // one bit at bit 0 is 9; each bit further up it is moved once, and what goes over 127 comes back as 9
        int v = 9;
        for (int bit = 0; bit < 22; bit++) {
            int bits = 1 << bit;
            told.card().run("check(" + bits / 65536 + ", " + bits % 65536 + ") = " + v);
            v = v < 64 ? 2 * v : 2 * v - 128 ^ 9;
        }
        told.card().run("check(17, 10) = 40; check(0, 3) = 27; check(0, 9) = 65; check(16, 0) ="
            + Checks.ofCommand(16, 0) + "; check(42, 43690) = " + Checks.ofCommand(42, 43690));
        told.sentence("Promise 8", "CHECK of a CONTENT: likewise by its 16 bits, bit 15 first.");
        v = 9;
        for (int bit = 0; bit < 16; bit++) {
            told.card().run("checkOf(" + (1 << bit) + ") = " + v + "; check(0, " + (1 << bit) + ") = " + v);
            v = v < 64 ? 2 * v : 2 * v - 128 ^ 9;
        }
        told.card().run("checkOf(0) = 0; checkOf(65535) = 101; checkOf(65536) = BAD; checkOf(-1) = BAD");
    }

    private void window() {
        told.sentence("Promise 19", "WINDOW: POINT is in it, if by 16 round it is no more than 7 less 2 SPEED away"
            + " from (3 and 5 SPEED and HEAT) modulo 16.");
        for (int speed = 0; speed <= 3; speed++) {
            int reach = 7 - 2 * speed;
            for (int heat = 0; heat <= 15; heat++) {
                int middle = 3 + 5 * speed + heat;
                String there = "SWITCH(" + (4 * speed + 1) + "); warm(" + heat + "); TUNE(";
                told.small().run(there + middle % 16 + ") = 1; IN_WINDOW = 1");
                told.small().run(there + (middle + reach) % 16 + ") = 1; IN_WINDOW = 1");
                told.small().run(there + (middle - reach + 16) % 16 + ") = 1; IN_WINDOW = 1");
                told.small().run(there + (middle + reach + 1) % 16 + ") = 0; IN_WINDOW = 0");
                told.small().run(there + (middle - reach - 1 + 16) % 16 + ") = 0; IN_WINDOW = 0");
                told.small().run(there + (middle + 8) % 16 + ") = 0; IN_WINDOW = 0");
            }
        }
    }

    private void notes() {
        told.sentence("Promise 19", "NOTES: 1 a CHECK of a COMMAND that does not fit;");
        told.small().run("send(22, 0, 1); NOTES = 1");
        told.sentence("Promise 19", "2 a COMMAND that is none in this STATE;");
        told.small().run("WAKE(0); NOTES = 2");
        told.sentence("Promise 19", "4 a BLOCK that there is not;");
        told.small().run("SEND_ONE(7); NOTES = 0; STOP(0); SEND_ONE(8); NOTES = 4");
        told.sentence("Promise 19", "8 erasing out of order;");
        told.small().run("ERASE(0); NOTES = 8");
        told.sentence("Promise 19", "16 locking failed;");
        told.small().run("LOCK(0); NOTES = 16");
        told.sentence("Promise 19", "32 a switch that can not be;");
        told.small().run("SWITCH(3); NOTES = 32");
        told.sentence("Promise 19", "64 a CHECK of a CONTENT that does not fit.");
        told.inState(6).run("give(1, 8); NOTES = 64");
    }
}
