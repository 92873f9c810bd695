/** The sentences of part 3 of the terms: contents, ticks, a cut, LATEST. */
final class SentencesOfContents {
    private final Told told;

    SentencesOfContents(Told told) {
        this.told = told;
    }

    void all() {
        given();
        got();
        written();
        erased();
        cut();
        latest();
        answers();
    }

    private void given() {
        told.sentence("Promise 11", "3 A CONTENT is GIVEN to the CARD, with a CHECK, when it is TAKING:");
        told.inState(6).run("give(5, " + Checks.ofContent(5) + ") = 1; later_are(0, 5, 0)");
        told.sentence("Promise 11", "if one was WRONG in this stream, or as many came as it is for: NO.");
        told.inState(6).run("give(1, 8) = 0; give(1, 9) = NO; give(1, 8) = NO; NOTES = 64; later_are(); STATE = TAKING");
        told.inState(6).run("fits(5); give(1, 8) = 0; fits(6) = NO; tick(4); fits(6) = NO; STOP(0); TAKE_MANY(0); fits(6) = 1");
        told.inState(6).run("give(1, 8) = 0; STATUS(1); fits(6) = NO; NOTES = 0");
        told.small().run("TAKE_ONE(0); fits(1) = 1; fits(2) = NO; NOTES = 0; later_are(0, 1, 0)");
        told.small().run("COUNT(2); TAKE_MANY(0); fits(1) = 1; fits(2) = 1; fits(3) = NO; tick(4); fits(3) = NO; NOTES = 0");
        told.small().run("TAKE_ONE(7); give(1, 8) = 0; give(1, 9) = NO; NOTES = 64; STOP(0) = 0; STATE = CHOSEN");
        told.sentence("Promise 11", "If no BLOCK is left: NOTE 4, NO.");
        told.small().run("TAKE_MANY(7); fits(1) = 1; NEXT = NONE; NOTES = 0; fits(2) = NO; NOTES = 4; later_are(7, 1, 0); STATE = TAKING");
        told.small().run("TAKE_MANY(6); fits(1) = 1; fits(2) = 1; fits(3) = NO; NOTES = 4; tick(8); fits(3) = NO; WELL = 2");
        told.small().run("COUNT(2); TAKE_MANY(7); fits(1) = 1; STATE = TAKING; fits(2) = NO; NOTES = 4; MORE = 1; STOP(0) = 1");
        told.small().run("TAKE_MANY(7); fits(1) = 1; give(2, 0) = NO; NOTES = 4; STATUS(1); give(2, 0) = NO; NOTES = 4");
        told.sentence("Promise 11", "If two are LATER: FULL.");
        told.inState(6).run("fits(1) = 1; fits(2) = 1; fits(3) = FULL; give(3, 0) = FULL; warm(8); fits(3) = FULL; NOTES = 0");
        told.inState(6).run("fits(1); fits(2); tick(3); fits(3) = FULL; tick(1); fits(3) = 1; fits(4) = FULL");
        told.small().run("COUNT(3); TAKE_MANY(0); fits(1); fits(2); fits(3) = FULL; MORE = 1; NEXT = 2; STATE = TAKING");
        told.sentence("Promise 11", "If POINT is not in the WINDOW, or the CHECK does not fit: NOTE 64, the stream is WRONG, 0.");
        told.inState(4).run("TUNE(10); TAKE_MANY(0); fits(1) = 1; NOTES = 0");
        told.inState(4).run("TUNE(11); TAKE_MANY(0); fits(1) = 0; NOTES = 64; later_are(); NEXT = 0; STATE = TAKING; fits(1) = NO");
        told.inState(4).run("TUNE(12); TAKE_MANY(0); fits(1) = 1; NOTES = 0");
        told.inState(6).run("warm(7); fits(1) = 1; warm(8); fits(2) = 0; warm(0); fits(2) = NO");
        for (int check = 0; check < 128; check++) {
            boolean fits = check == Checks.ofContent(777);
            told.inState(6).run("give(777, " + check + ") = " + (fits ? "1; NOTES = 0; NEXT = 1" : "0; NOTES = 64; NEXT = 0"));
        }
        told.small().run("TAKE_ONE(0); give(1, 8) = 0; STATE = TAKING; MORE = 1; WELL = 0; STOP(0) = 0; STATE = CHOSEN");
        told.sentence("Promise 11", "Else it is LATER for that BLOCK, the next BLOCK is next: 1;");
        told.small().run("TAKE_MANY(3); NEXT = 3; fits(5) = 1; NEXT = 4; later_are(3, 5, 0); fits(6) = 1; NEXT = 5;"
            + "later_are(3, 5, 0, 4, 6, 0); FILLED = 0; NOTES = 0");
        told.small().run("TAKE_MANY(6); fits(5) = 1; NEXT = 7; fits(6) = 1; NEXT = NONE; later_are(6, 5, 0, 7, 6, 0)");
        told.sentence("Promise 11", "if it is for so many and they are all there, it is WRITING.");
        told.small().run("TAKE_ONE(7); fits(1) = 1; STATE = WRITING; later_are(7, 1, 0)");
        told.small().run("COUNT(1); TAKE_MANY(0); fits(1) = 1; STATE = WRITING");
        told.small().run("COUNT(3); TAKE_MANY(0); fits(1); tick(4); fits(2); STATE = TAKING; fits(3) = 1; STATE = WRITING; MORE = NONE");
        told.small().run("COUNT(8); TAKE_MANY(0)").times(7, "fits(1) = 1; tick(4); STATE = TAKING")
            .run("fits(1) = 1; STATE = WRITING; tick(4); STATE = CHOSEN; WELL = 8");
        told.small().run("TAKE_MANY(7); fits(1) = 1; STATE = TAKING; tick(4); STATE = TAKING");
    }

    private void got() {
        String filled = "put(0, 10); put(1, 11); put(6, 16); put(7, 17);";
        told.sentence("Promise 12", "A CONTENT is GOT from it, when it is SENDING: if POINT is not in the WINDOW,"
            + " or the BLOCK is TORN: no answer (NONE), nothing changes.");
        told.small().run(filled + "TUNE(10); SEND_ONE(0); get() = 10");
        told.small().run(filled + "TUNE(12); SEND_ONE(0); get() = 10");
        told.small().run(filled + "TUNE(11); SEND_ONE(0); get() = NONE; get() = NONE; STATE = SENDING; NEXT = 0; MORE = 1; NOTES = 0");
        told.small().run(filled + "SEND_MANY(0); warm(7); get() = 10; warm(8); get() = NONE; NEXT = 1; warm(7); get() = 11");
        told.changesNothing("make(8, 3, 0, 7); toChosen(); COUNT(2); SEND_MANY(0); warm(8)", "get() = NONE");
        String torn = "make(8, 3, 0, 7); toChosen();" + filled + "TAKE_ONE(1); fits(5); tick(1); power(0); toChosen();";
        told.card().run(torn + "SEND_MANY(0); get() = 10; get() = NONE; get() = NONE; STATE = SENDING; NEXT = 1; NOTES = 0; STOP(0) = 0");
        told.card().run(torn + "SEND_ONE(1); get() = NONE; STATE = SENDING; STOP(0); SEND_ONE(2); get() = 65535; STATE = CHOSEN");
        told.card().run(torn + "put(1, 65535); SEND_ONE(1); get() = 65535");
        told.changesNothing(torn + "COUNT(2); SEND_MANY(1)", "get() = NONE");
        told.sentence("Promise 12", "Else the CONTENT; the next BLOCK is next; if it was the last of so many, or the last BLOCK,"
            + " it is CHOSEN.");
        told.small().run(filled + "SEND_ONE(0); get() = 10; STATE = CHOSEN; get() = NO; NEXT = NONE; NOTES = 0");
        told.small().run(filled + "SEND_ONE(7); get() = 17; STATE = CHOSEN");
        told.small().run(filled + "COUNT(2); SEND_MANY(0); get() = 10; NEXT = 1; MORE = 1; STATE = SENDING; get() = 11; STATE = CHOSEN");
        told.small().run(filled + "SEND_MANY(6); get() = 16; NEXT = 7; STATE = SENDING; get() = 17; STATE = CHOSEN");
        told.small().run(filled + "COUNT(2); SEND_MANY(6); get() = 16; STATE = SENDING; get() = 17; STATE = CHOSEN");
        told.small().run(filled + "COUNT(3); SEND_MANY(6); get() = 16; MORE = 2; get() = 17; STATE = CHOSEN; MORE = NONE; NOTES = 0");
        told.small().run(filled + "COUNT(65535); SEND_MANY(7); get() = 17; STATE = CHOSEN");
        told.small().run("put(0, 0); put(1, 65535); SEND_MANY(0); get() = 0; get() = 65535; get() = 65535");
    }

    private void written() {
        told.sentence("Promise 13", "A TICK (with power; TAKING or WRITING): the first that is LATER is written one TICK further;");
        told.inState(6).run("fits(5); fits(6); tick(1); later_are(0, 5, 1, 1, 6, 0); tick(2); later_are(0, 5, 3, 1, 6, 0)");
        told.inState(6).run("fits(5); STOP(0); tick(1); later_are(0, 5, 1); tick(1); later_are(0, 5, 2)");
        told.inState(6).run("tick(9); fits(5); later_are(0, 5, 0); tick(3); FILLED = 0; tick(1); FILLED = 1");
        for (int state = 0; state <= 5; state++) {
            told.inState(state).run("tick(400) = 400; STATE = " + state + "; WELL = 0; NOTES = 0");
        }
        told.inState(0).run("WAKE(0) = 0; tick(9); WAKE(0) = 0; tick(9); WAKE(0) = 1");
        told.small().run("COUNT(2); FROM(2) = 0; tick(9); TO(2) = 0; tick(9); ERASE(0) = 1; NOTES = 0; tick(2); SEND_MANY(0); MORE = 2;"
            + "get(); tick(9); NEXT = 1; MORE = 1; get() = 65535; STATE = CHOSEN");
        told.inState(7).run("power(0); tick(400); later_are(); FILLED = 0; torn_are(); WELL = 0");
        told.sentence("Promise 13", "a BLOCK takes 4 by one line, 2 by four, 1 by eight (as LINES are at this TICK):"
            + " when it has had so many or more, it is written:");
        int[] takes = {4, 2, 1};
        for (int lines = 0; lines <= 2; lines++) {
            Run x = told.small().run("SWITCH(" + lines + "); TAKE_ONE(2); fits(5)");
            for (int t = 1; t < takes[lines]; t++) {
                x.run("tick(1); later_are(2, 5, " + t + "); block(2, 0) = 65535; WELL = 0; STATE = WRITING");
            }
            x.run("tick(1); later_are(); block(2, 0) = 5; WELL = 1; STATE = CHOSEN");
            told.small().run("SWITCH(" + lines + "); TAKE_MANY(2); fits(5); fits(6); tick(" + 2 * takes[lines] + "); later_are(); WELL = 2");
            told.small().run("SWITCH(" + lines + "); TAKE_MANY(2); fits(5); fits(6); tick(" + (2 * takes[lines] - 1)
                + "); later(-1, 0) = 1; WELL = 1");
        }
        told.small().run("SWITCH(2); SWITCH(1); TAKE_ONE(0); fits(5); tick(1); WELL = 0; tick(1); WELL = 1; SWITCH(0); TAKE_ONE(0); fits(5);"
            + "tick(3); WELL = 0; tick(1); WELL = 1");
        told.sentence("Promise 13", "it has that CONTENT, is not TORN, WELL is 1 more, it is LATER no more.");
        told.inState(7).run("tick(1); power(0); torn_are(0); toChosen(); TAKE_ONE(0); fits(9); tick(3); torn_are(0); tick(1);"
            + "torn_are(); block(0, 0) = 9; WELL = 1; later_are()");
        told.inState(6).run("fits(5); tick(4); WELL = 1; fits(0); tick(4); WELL = 2; fits(65535); tick(4); WELL = 3; later_are();"
            + "contents_are(5, 0, 65535, 65535, 65535, 65535, 65535, 65535)");
        told.small().run("put(0, 5); put(0, 6); block(0, 0) = 6; FILLED = 1; put(0, 65535); FILLED = 0");
        told.sentence("Promise 13", "(One BLOCK, one TICK; none begins in the same TICK.)");
        told.small().run("SWITCH(2); TAKE_MANY(0); fits(5); fits(6); tick(1); WELL = 1; later_are(1, 6, 0); tick(1); WELL = 2; later_are()");
        told.inState(6).run("fits(5); fits(6); tick(4); later_are(1, 6, 0); power(0); torn_are()");
        told.inState(6).run("fits(5); fits(6); tick(5); later_are(1, 6, 1); power(0); torn_are(1)");
    }

    private void erased() {
        told.sentence("Promise 13", "If nothing is LATER at the beginning of a TICK and GROUPS are to be erased: the lowest is erased"
            + " one TICK further, behind two TICKS each of its BLOCKS has 65535, is not TORN.");
        String filled = "put(2, 2); put(3, 3); put(5, 5); put(6, 6); put(7, 7);";
        told.small().run(filled + "erase(3, 7); tick(1); FILLED = 5; TO_BE_ERASED = 2; tick(1); TO_BE_ERASED = 1;"
            + "contents_are(65535, 65535, 2, 65535, 65535, 65535, 6, 7); tick(1); FILLED = 3; tick(1); TO_BE_ERASED = 0;"
            + "contents_are(65535, 65535, 2, 65535, 65535, 65535, 65535, 65535)");
        told.small().run("erase(3, 3); tick(1); power(0); torn_are(3, 4, 5); toChosen(); erase(3, 3); tick(1); torn_are(3, 4, 5); tick(1);"
            + "torn_are(); TORN = 0");
        told.small().run("erase(7, 7); tick(1); power(0); torn_are(6, 7); toChosen(); erase(6, 6); tick(2); torn_are()");
        told.small().run("put(0, 1); SWITCH(2); erase(0, 0); tick(1); FILLED = 1; tick(1); FILLED = 0");
        told.sentence("Promise 13", "WRITING with nothing LATER and nothing to be erased behind a TICK: CHOSEN.");
        told.inState(7).run("tick(3); STATE = WRITING; tick(1); STATE = CHOSEN; tick(9); STATE = CHOSEN");
        told.small().run("erase(0, 0); tick(1); STATE = WRITING; tick(1); STATE = CHOSEN");
        told.small().run("erase(0, 3); tick(2); STATE = WRITING; tick(1); STATE = WRITING; tick(1); STATE = CHOSEN");
        told.small().run("erase(0, 0); tick(400) = 400; STATE = CHOSEN; TO_BE_ERASED = 0; put(3, 1); FILLED = 1");
        told.inState(6).run("fits(1); tick(4); STATE = TAKING; tick(400); STATE = TAKING; fits(2); STOP(0); tick(4); STATE = CHOSEN");
        told.small().run("COUNT(2); TAKE_MANY(0); fits(1); fits(2); STATE = WRITING; tick(4); STATE = WRITING; tick(4); STATE = CHOSEN");
    }

    private void cut() {
        told.sentence("Promise 3", "A CUT: power goes. The first that is LATER, if it had a TICK at least: that BLOCK is TORN.");
        told.small().run("power(0); STATE = NONE; TORN = 0");
        told.small().run("put(0, 1); TAKE_MANY(0); fits(5); fits(6); power(0); torn_are(); block(0, 0) = 1; latest_are(0)");
        told.small().run("put(0, 1); TAKE_MANY(0); fits(5); fits(6); tick(1); power(0); torn_are(0); block(0, 0) = 65535; latest_are()");
        told.small().run("put(1, 1); TAKE_MANY(0); fits(5); fits(6); tick(3); power(0); torn_are(0); block(1, 0) = 1; latest_are(1)");
        told.small().run("TAKE_MANY(0); fits(5); fits(6); tick(4); power(0); torn_are(); block(0, 0) = 5");
        told.small().run("TAKE_MANY(0); fits(5); fits(6); tick(5); power(0); torn_are(1); WELL = 1");
        told.small().run("TAKE_ONE(7); fits(5); tick(2); power(0); torn_are(7)");
        told.small().run("SWITCH(1); TAKE_ONE(7); fits(5); tick(1); power(0); torn_are(7)");
        told.small().run("SWITCH(2); TAKE_MANY(6); fits(5); fits(6); tick(1); power(0); torn_are(); block(6, 0) = 5");
        told.inState(7).run("tick(1); power(0); power(1); power(0); torn_are(0); tick(9); torn_are(0)");
        told.sentence("Promise 3", "The GROUP that is being erased, if it had a TICK: all its BLOCKS are TORN.");
        String filled = "put(0, 1); put(3, 3); put(6, 6);";
        told.small().run(filled + "erase(0, 7); power(0); torn_are(); FILLED = 3");
        told.small().run(filled + "erase(0, 7); tick(1); power(0); torn_are(0, 1, 2); FILLED = 2; latest_are(6, 3)");
        told.small().run(filled + "erase(0, 7); tick(2); power(0); torn_are(); FILLED = 2; latest_are(6, 3)");
        told.small().run(filled + "erase(0, 7); tick(3); power(0); torn_are(3, 4, 5); FILLED = 1; latest_are(6)");
        told.small().run(filled + "erase(0, 7); tick(5); power(0); torn_are(6, 7); FILLED = 0; latest_are(); TORN = 2");
        told.small().run(filled + "erase(0, 7); tick(6); power(0); torn_are()");
        told.sentence("Promise 15", "(CONTENT of a TORN BLOCK is 65535.)");
        told.small().run("put(0, 1); TAKE_ONE(0); fits(5); tick(1); block(0, 0) = 1; power(0); block(0, 1) = 1; block(0, 0) = 65535; FILLED = 0");
        told.small().run("put(3, 1); put(5, 2); erase(4, 4); tick(1); block(3, 0) = 1; power(0); block(3, 0) = 65535; block(5, 0) = 65535;"
            + "FILLED = 0; TORN = 3");
    }

    private void latest() {
        told.sentence("Promise 16", "LATEST are BLOCKS as they were written (not erased), each once, the one written last first"
            + " (one written anew goes to the front);");
        told.small().run("latest_are(); put(3, 1); latest_are(3); put(0, 1); latest_are(0, 3); put(7, 65535); latest_are(7, 0, 3)");
        told.small().run("put(3, 1); put(0, 1); put(7, 1); put(3, 1); latest_are(3, 7, 0); put(3, 1); latest_are(3, 7, 0);"
            + "put(7, 2); latest_are(7, 3, 0); put(0, 2); latest_are(0, 7, 3)");
        told.small().run("put(3, 1); TAKE_ONE(0); fits(5); tick(3); latest_are(3); tick(1); latest_are(0, 3)");
        told.small().run("TAKE_MANY(0)").times(8, "fits(1); tick(4)").run("latest_are(7, 6, 5, 4, 3, 2, 1, 0); STOP(0); put(0, 1);"
            + "latest_are(0, 7, 6, 5, 4, 3, 2, 1); latest(8) = NONE");
        Run all = told.card().run("make(64, 8, 0, 0); toChosen(); SWITCH(2); TAKE_MANY(0)").times(64, "fits(1); tick(1)");
        all.run("latest(0) = 63; latest(63) = 0; latest(64) = NONE; STOP(0); TAKE_ONE(0); fits(1); tick(1); latest(0) = 0; latest(1) = 63;"
            + "latest(63) = 1; latest(64) = NONE");
        told.sentence("Promise 16", "erased or TORN it is none.");
        told.small().run("put(0, 1); put(3, 1); put(2, 1); put(7, 1); erase(1, 1); tick(1); latest_are(7, 2, 3, 0); tick(1); latest_are(7, 3);"
            + "put(0, 1); latest_are(0, 7, 3)");
        told.small().run("put(0, 1); put(3, 1); put(2, 1); TAKE_ONE(3); fits(5); tick(1); latest_are(2, 3, 0); power(0); latest_are(2, 0);"
            + "toChosen(); put(3, 1); latest_are(3, 2, 0)");
        told.small().run("put(6, 1); put(3, 1); put(7, 1); erase(6, 6); tick(1); latest_are(7, 3, 6); power(0); latest_are(3)");
        told.small().run("put(6, 1); put(3, 1); type(k); LOCK(5); LOCK(8); tick(4); latest_are(6); tick(2); latest_are()");
    }

    private void answers() {
        told.sentence("Promise 9", "BAD: a number is none that is told.");
        told.card().run("send(64, 0, 0) = BAD; power(2) = BAD; block(32, 0) = BAD; count(19) = BAD");
        told.sentence("Promise 3", "NO: not as things stand.");
        told.card().run("power(0) = NO; power(1) = 1; power(1) = NO; get() = NO; give(0, 0) = NO");
        told.sentence("Promise 16", "NONE: there is none, no answer. FULL.");
        told.card().run("latest(0) = NONE; later(0, 0) = NONE; word(0) = NONE; tell(0, 0) = NONE; STATE = NONE");
        told.card().times(200, "write(65)").run("write(65) = FULL");
        told.sentence("Promise 9", "Of several the first in the order told;");
        told.card().run("power(2) = BAD; power(1); power(2) = BAD; send(64, 65536, 128) = BAD; give(65536, 0) = BAD; give(0, 128) = BAD");
        told.card().times(200, "write(65)").run("write(127) = BAD; write(65) = FULL");
        told.small().run("TAKE_MANY(6); fits(1); fits(2); fits(3) = NO; give(3, 0) = NO; NOTES = 4");
        told.inState(6).run("fits(1); fits(2); warm(8); give(3, 0) = FULL; NOTES = 0");
        told.small().run("TO(8) = NO; NOTES = 4; later(5, 3) = BAD; later(-2, 0) = BAD; block(8, 3) = BAD");
        told.small().run("send(63, 0, 1) = NONE; NOTES = 1");
        told.small().run("type(k); LOCK(5); send(17, 0, 127) = NONE; NOTES = 1; SEND_ONE(9) = NONE; NOTES = 3");
        nothingChanges();
    }

    private void nothingChanges() {
        told.sentence("Promise 9", "nothing changes then but what is told.");
        String[] ways = {"make(8, 3, 2, 7); type(ab)", "make(8, 3, 2, 7); power(1); WAKE(0)", "make(8, 3, 0, 7); toChosen(); COUNT(2)",
            "make(8, 3, 0, 7); toChosen(); put(1, 5); FROM(1)", "make(8, 3, 0, 7); toChosen(); FROM(1); TO(4)",
            "make(8, 3, 0, 7); toChosen(); type(ab); LOCK(5); type(abc)", "make(8, 3, 0, 7); toChosen(); put(1, 5); COUNT(3); SEND_MANY(1)",
            "make(8, 3, 0, 7); toChosen(); COUNT(4); TAKE_MANY(1); fits(5); fits(6); tick(1)",
            "make(8, 3, 0, 7); toChosen(); COUNT(4); TAKE_MANY(1); fits(5); give(6, 0)",
            "make(8, 3, 0, 7); toChosen(); TAKE_ONE(1); fits(5); tick(1)", "make(8, 3, 0, 7); toChosen(); erase(1, 7); tick(3)"};
        String[] refused = {"make(3, 3, 0, 7) = BAD", "make(8, 9, 0, 7) = BAD", "make(8, 3, 10, 7) = BAD", "make(8, 3, 0, 65536) = BAD",
            "power(2) = BAD", "power(-1) = BAD", "warm(16) = BAD", "warm(-1) = BAD", "write(31) = BAD", "write(127) = BAD",
            "check(64, 0) = BAD", "checkOf(65536) = BAD", "send(64, 0, 0) = BAD", "send(0, 65536, 0) = BAD", "send(0, 0, 128) = BAD",
            "send(-1, 0, 0) = BAD", "tell(64, 0) = BAD", "tell(0, 65536) = BAD", "tell(0, -1) = BAD", "give(65536, 0) = BAD",
            "give(-1, 0) = BAD", "give(0, 128) = BAD", "give(0, -1) = BAD", "tick(0) = BAD", "tick(401) = BAD", "tick(-1) = BAD",
            "block(8, 0) = BAD", "block(0, 3) = BAD", "latest(-1) = BAD", "latest(64) = NONE", "word(-2) = BAD", "word(8) = NONE",
            "later(-2, 0) = BAD", "later(0, 3) = BAD", "later(2, 0) = NONE", "count(19) = BAD", "count(-1) = BAD"};
        told.changesNothing("make(8, 3, 0, 7); warm(9);" + "write(97);".repeat(200), "write(97) = FULL");
        for (String way : ways) {
            for (String call : refused) {
                told.changesNothing(way, call);
            }
            boolean powered = way.contains("power") || way.contains("toChosen");
            told.changesNothing(way, powered ? "power(1) = NO" : "power(0) = NO");
            if (!way.contains("SEND")) {
                told.changesNothing(way, "get() = NO");
            }
            if (!way.contains("TAKE_MANY(1); fits(5); fits(6)")) {
                told.changesNothing(way, "fits(9) = NO");
            } else {
                told.changesNothing(way, "fits(9) = FULL");
                told.changesNothing(way, "give(9, 0) = FULL");
            }
        }
    }
}
