import java.lang.reflect.Constructor;
import java.lang.reflect.Executable;
import java.lang.reflect.Method;
import java.lang.reflect.Modifier;
import java.util.ArrayList;
import java.util.Arrays;
import java.util.List;

/** The sentences of the promises 1 to 19 themselves. */
final class SentencesOfPromises {
    private static final List<String> PUBLIC = publicFace();
    private static final String[] BEYOND = {"-1", "LEAST", "MOST"};

    private final Told told;

    SentencesOfPromises(Told told) {
        this.told = told;
    }

    void all() {
        signatures();
        newObjectAndMake();
        powerAndWarm();
        writeAndWipe();
        checks();
        sendAndTell();
        giveAndGet();
        tick();
        tune();
        block();
        latestAndWord();
        later();
        countOfTheCard();
        countOfTheRest();
    }

    private void signatures() {
        String[] faces = {"BlockCard()", "int make(int b, int g, int idleness, int number)", "int power(int on)", "int warm(int heat)",
            "int write(int letter)", "int wipe()", "int check(int command, int argument)", "int checkOf(int content)",
            "int send(int command, int argument, int check)", "int tell(int command, int argument)",
            "int give(int content, int check)", "int get()", "int tick(int n)", "int tune()", "int block(int b, int what)",
            "int latest(int i)", "int word(int i)", "int later(int i, int what)", "int count(int what)"};
        for (int i = 0; i < faces.length; i++) {
            told.sentence("Promise " + (i + 1), "`" + faces[i] + "`:");
            String bare = faces[i].replaceAll("int (\\w+)(?=[,)])", "int").replace(" ", "");
            told.same(faces[i] + " is public", PUBLIC.contains(bare) ? 1 : 0, 1);
        }
        told.same("how many are public", PUBLIC.size(), faces.length);
    }

    private static List<String> publicFace() {
        List<String> all = new ArrayList<>();
        for (Constructor<?> c : BlockCard.class.getConstructors()) {
            all.add("BlockCard" + types(c));
        }
        for (Method m : BlockCard.class.getDeclaredMethods()) {
            if (Modifier.isPublic(m.getModifiers())) {
                all.add(m.getReturnType() + m.getName() + types(m));
            }
        }
        return all;
    }

    private static String types(Executable e) {
        return Arrays.toString(e.getParameterTypes()).replace("[", "(").replace("]", ")").replace(" ", "");
    }

    private void newObjectAndMake() {
        told.sentence("Promise 1", "As by make(32, 4, 2, 1000); THE TEXT is empty, HEAT 0.");
        told.card().run("B = 32; G = 4; STATE = NONE; WELL = 0; TORN = 0; TICKS = 0; HEAT = 0; TEXT = 0; FILLED = 0; word(-1) = 0;"
            + "latest(0) = NONE; later(-1, 0) = 0; power(0) = NO; wipe() = 0; warm(5) = 0");
        told.card().run("block(0, 0) = 65535; block(31, 0) = 65535; block(32, 0) = BAD; block(31, 2) = 7");
        told.card().run("power(1) = 1; WAKE(0) = 0; WAKE(0) = 0; WAKE(0) = 1; NAME(0) = 1000; LOCKED = 0");
        told.sentence("Promise 2", "Another CARD, without power: B (4 to 64), G (1 to 8), IDLENESS (0 to 9), its number (0 to 65535);");
        for (String good : new String[] {"4, 1, 0, 0", "64, 8, 9, 65535", "5, 2, 1, 1", "63, 7, 8, 65534", "4, 8, 0, 65535"}) {
            String[] n = good.split(", ");
            told.card().run("make(" + good + ") = " + n[0] + "; B = " + n[0] + "; G = " + n[1] + "; STATE = NONE; power(0) = NO; power(1) = 1")
                .times(Integer.parseInt(n[2]), "WAKE(0) = 0").run("WAKE(0) = 1; NAME(0) = " + n[3]);
        }
        told.small().run("make(8, 3, 0, 7) = 8; STATE = NONE; tell(0, 0) = NONE; ADDRESS = 0; NOTES = 0; power(1) = 1; ADDRESS = 0");
        told.sentence("Promise 2", "all BLOCKS 65535, no WORD, WELL 0, TICKS 0 (THE TEXT, HEAT stay): B.");
        String used = "put(0, 1); put(7, 2); TAKE_MANY(3); fits(5); fits(6); tick(5); type(key); warm(9); power(0); toStandby(); CHOOSE(1);"
            + "LOCK(1) = 1; torn_are(4); WELL = 1;";
        told.small().run(used + "make(8, 3, 0, 7) = 8; contents_are(65535, 65535, 65535, 65535, 65535, 65535, 65535, 65535); torn_are();"
            + "latest_are(); word(-1) = 0; WELL = 0; TICKS = 0; TEXT = 3; HEAT = 9; power(1); LOCKED = 0; tick(1) = 1");
        told.small().run(used + "make(64, 8, 9, 0) = 64; FILLED = 0; TORN = 0; B = 64; G = 8; wipe() = 3; warm(0) = 9");
        told.small().run("TAKE_ONE(1); fits(5); tick(1); make(8, 3, 0, 7) = 8; torn_are(); later_are(); toChosen(); tick(9); FILLED = 0");
        told.small().run("erase(0, 7); tick(1); make(8, 3, 0, 7) = 8; torn_are(); TO_BE_ERASED = 0; toChosen(); tick(9); STATE = CHOSEN");
        told.small().run("COUNT(3); FROM(1); make(8, 3, 0, 7) = 8; toChosen(); NOTES = 0; TO(2) = NO; SEND_MANY(0); MORE = NONE");
        told.card().run("make(8, 3, 2, 7); power(1); WAKE(0); WAKE(0); make(8, 3, 1, 7); power(1); WAKE(0) = 0; WAKE(0) = 1");
        told.card().run("make(64, 8, 0, 7); toChosen(); put(63, 5); make(4, 8, 0, 7); FILLED = 0; latest_are(); make(64, 8, 0, 7);"
            + "block(63, 0) = 65535; FILLED = 0; latest_are()");
        told.sentence("Promise 2", "BAD.");
        for (String bad : new String[] {"3, 1, 0, 0", "65, 1, 0, 0", "8, 0, 0, 0", "8, 9, 0, 0", "8, 1, -1, 0", "8, 1, 10, 0", "8, 1, 0, -1",
            "8, 1, 0, 65536", "0, 1, 0, 0", "8, -1, 0, 0", "LEAST, 1, 0, 0", "MOST, 1, 0, 0", "8, LEAST, 0, 0", "8, MOST, 0, 0",
            "8, 1, LEAST, 0", "8, 1, MOST, 0", "8, 1, 0, LEAST", "8, 1, 0, MOST"}) {
            told.changesNothing("make(8, 3, 2, 7); power(1); WAKE(0)", "make(" + bad + ") = BAD");
        }
    }

    private void powerAndWarm() {
        told.sentence("Promise 3", "POWER ON (on = 1), a CUT (0): 1.");
        told.card().run("power(1) = 1; STATE = IDLE; power(0) = 1; STATE = NONE; power(1) = 1; STATE = IDLE");
        told.inState(7).run("tick(1); power(0) = 1; torn_are(0)");
        told.sentence("Promise 3", "BAD; NO: it is so.");
        for (String on : new String[] {"2", "-1", "LEAST", "MOST"}) {
            told.card().run("power(" + on + ") = BAD; STATE = NONE; power(1); power(" + on + ") = BAD; STATE = IDLE");
        }
        told.card().run("power(0) = NO; STATE = NONE; power(1) = 1; power(1) = NO; STATE = IDLE; power(0) = 1; power(0) = NO");
        told.inState(7).run("tick(1); power(1) = NO; STATE = WRITING; torn_are(); later_are(0, 1, 1)");
        told.sentence("Promise 4", "HEAT (0 to 15): what it was.");
        told.card().run("warm(0) = 0; warm(15) = 0; warm(15) = 15; warm(1) = 15; warm(0) = 1; HEAT = 0");
        told.small().run("warm(4) = 0; power(0); HEAT = 4; warm(5) = 4; power(1); HEAT = 5; RESET(0); HEAT = 5");
        told.sentence("Promise 4", "BAD.");
        for (String heat : new String[] {"16", "-1", "LEAST", "MOST"}) {
            told.card().run("warm(7); warm(" + heat + ") = BAD; HEAT = 7");
        }
    }

    private void writeAndWipe() {
        told.sentence("Promise 5", "A letter (32 to 126, as in ASCII) comes behind THE TEXT: how long it is.");
        told.card().run("write(32) = 1; write(126) = 2; TEXT = 2");
        told.small().run("write(32); write(126); write(65); LOCK(1) = 1; word(0) = 32; word(1) = 126; word(2) = 65; word(-1) = 3");
        told.card().times(199, "write(97)").run("write(98) = 200");
        told.sentence("Promise 5", "BAD; FULL: it has 200.");
        for (String letter : new String[] {"31", "127", "0", "-1", "128", "LEAST", "MOST"}) {
            told.card().run("write(65) = 1; write(" + letter + ") = BAD; TEXT = 1");
            told.card().times(200, "write(65)").run("write(" + letter + ") = BAD; TEXT = 200");
        }
        told.card().times(200, "write(65)").run("write(65) = FULL; TEXT = 200; write(66) = FULL; TEXT = 200; wipe() = 200; write(66) = 1");
        told.sentence("Promise 6", "THE TEXT is empty: how long it was.");
        told.card().run("wipe() = 0; TEXT = 0; write(65); wipe() = 1; TEXT = 0; wipe() = 0");
        told.card().times(200, "write(65)").run("wipe() = 200; TEXT = 0; write(65) = 1");
        told.small().run("type(ab); LOCK(1); wipe() = 2; word_is(ab); power(0); wipe() = 0");
        told.small().run("type(abcdefgh); wipe(); write(122); LOCK(1) = 1; word_is(z)");
    }

    private void checks() {
        told.sentence("Promise 7", "CHECK of a COMMAND (0 to 63) with an ARGUMENT (0 to 65535).");
        for (int command : new int[] {0, 1, 31, 32, 62, 63}) {
            for (int argument : new int[] {0, 1, 32767, 32768, 65534, 65535}) {
                told.card().run("check(" + command + ", " + argument + ") = " + Checks.ofCommand(command, argument));
            }
        }
        told.sentence("Promise 7", "BAD.");
        for (String bad : new String[] {"64, 0", "-1, 0", "LEAST, 0", "MOST, 0", "0, 65536", "0, -1", "0, LEAST", "0, MOST", "64, 65536"}) {
            told.card().run("check(" + bad + ") = BAD; power(1); check(" + bad + ") = BAD; NOTES = 0");
        }
        told.sentence("Promise 8", "CHECK of a CONTENT (0 to 65535).");
        for (int content : new int[] {0, 1, 127, 128, 32767, 32768, 65534, 65535}) {
            told.card().run("checkOf(" + content + ") = " + Checks.ofContent(content));
        }
        told.sentence("Promise 8", "BAD.");
        for (String bad : new String[] {"65536", "-1", "LEAST", "MOST"}) {
            told.card().run("checkOf(" + bad + ") = BAD");
        }
    }

    private void sendAndTell() {
        told.sentence("Promise 9", "A COMMAND (0 to 63) is SENT, with an ARGUMENT (0 to 65535), a CHECK (0 to 127): the answer.");
        told.card().run("power(1); send(0, 0, 0) = 0; NOTES = 0; send(63, 65535, " + Checks.ofCommand(63, 65535) + ") = NONE; NOTES = 2");
        told.small().run("send(23, 65535, " + Checks.ofCommand(23, 65535) + ") = 65535; send(23, 0, " + Checks.ofCommand(23, 0) + ") = 0");
        // of all ARGUMENTS to COUNT these have the CHECKS 0 and 127
        told.small().run("send(23, " + argumentFor(23, 0) + ", 0) = " + argumentFor(23, 0) + "; send(23, " + argumentFor(23, 127) + ", 127) = "
            + argumentFor(23, 127) + "; NOTES = 0");
        told.sentence("Promise 9", "BAD; NONE: no answer.");
        for (String bad : new String[] {"64, 0, 0", "-1, 0, 0", "0, 65536, 0", "0, -1, 0", "0, 0, 128", "0, 0, -1", "LEAST, 0, 0", "MOST, 0, 0",
            "0, LEAST, 0", "0, MOST, 0", "0, 0, LEAST", "0, 0, MOST"}) {
            told.card().run("send(" + bad + ") = BAD; STATE = NONE; power(1); send(" + bad + ") = BAD; NOTES = 0");
            told.changesNothing("make(8, 3, 0, 7); toChosen(); FROM(1)", "send(" + bad + ") = BAD");
        }
        told.card().run("send(0, 0, 0) = NONE; power(1); send(2, 0, " + Checks.ofCommand(2, 0) + ") = NONE; send(0, 0, 5) = NONE");
        told.sentence("Promise 10", "Likewise, with the CHECK that fits.");
        told.card().run("tell(0, 0) = NONE; power(1); tell(0, 0) = 0; tell(0, 65535) = 0; tell(63, 65535) = NONE; NOTES = 2");
        told.small().run("tell(23, 65535) = 65535; tell(23, 0) = 0; tell(23, 43690) = 43690; NOTES = 0");
        for (String bad : new String[] {"64, 0", "-1, 0", "0, 65536", "0, -1", "LEAST, 0", "MOST, 0", "0, LEAST", "0, MOST"}) {
            told.card().run("tell(" + bad + ") = BAD; power(1); tell(" + bad + ") = BAD; NOTES = 0");
        }
    }

    private static int argumentFor(int command, int check) {
        for (int argument = 0; argument < 65536; argument++) {
            if (Checks.ofCommand(command, argument) == check) {
                return argument;
            }
        }
        throw new IllegalStateException("no ARGUMENT has the CHECK " + check);
    }

    private void giveAndGet() {
        told.sentence("Promise 11", "A CONTENT (0 to 65535) is GIVEN, with a CHECK (0 to 127): 1, 0, FULL, NO as told.");
        told.inState(6).run("give(0, 0) = 1; give(65535, 101) = 1; give(1, 9) = FULL; tick(4); give(1, 127) = 0; give(1, 9) = NO");
        told.inState(6).run("give(0, 127) = 0; NOTES = 64");
        told.sentence("Promise 11", "BAD; NO: no power, or it is not TAKING.");
        for (String bad : new String[] {"65536, 0", "-1, 0", "0, 128", "0, -1", "LEAST, 0", "MOST, 0", "0, LEAST", "0, MOST"}) {
            told.card().run("give(" + bad + ") = BAD");
            told.inState(4).run("give(" + bad + ") = BAD");
            told.inState(6).run("give(" + bad + ") = BAD; NOTES = 0; fits(1) = 1; fits(2) = 1; give(" + bad + ") = BAD");
        }
        told.card().run("give(1, 9) = NO; give(1, 8) = NO");
        for (int state = 0; state <= 7; state++) {
            if (state != 6) {
                told.changesNothing(Told.wayTo(state), "give(1, 9) = NO");
                told.changesNothing(Told.wayTo(state), "give(1, 8) = NO");
            }
        }
        told.sentence("Promise 12", "A CONTENT is GOT: it; NONE.");
        told.small().run("put(0, 0); put(1, 65534); SEND_MANY(0); get() = 0; get() = 65534; get() = 65535; warm(8); get() = NONE");
        told.sentence("Promise 12", "NO: no power, or it is not SENDING.");
        told.card().run("get() = NO; power(1); power(0); get() = NO");
        for (int state = 0; state <= 7; state++) {
            if (state != 5) {
                told.changesNothing(Told.wayTo(state), "get() = NO");
            }
        }
        told.small().run("warm(8); get() = NO; SEND_ONE(0); get() = NONE; power(0); get() = NO");
    }

    private void tick() {
        told.sentence("Promise 13", "n TICKS (1 to 400): how many there were in all.");
        told.card().run("tick(1) = 1; tick(400) = 401; tick(399) = 800; TICKS = 800");
        told.small().run("erase(0, 7); tick(6) = 6; STATE = CHOSEN");
        told.small().run("SWITCH(2); TAKE_MANY(0); fits(1); fits(2); tick(400) = 400; WELL = 2");
        told.sentence("Promise 13", "BAD.");
        for (String bad : new String[] {"0", "401", "-1", "LEAST", "MOST"}) {
            told.card().run("tick(3); tick(" + bad + ") = BAD; TICKS = 3");
            told.inState(7).run("tick(" + bad + ") = BAD; later_are(0, 1, 0); TICKS = 0");
        }
        told.sentence("Promise 13", "(Without power they go on, and nothing else does.)");
        told.card().run("tick(400) = 400; TICKS = 400; STATE = NONE; NOTES = 0");
        told.inState(7).run("tick(1) = 1; power(0); tick(9) = 10; TICKS = 10; torn_are(0); FILLED = 0; WELL = 0; power(1); TICKS = 10;"
            + "tick(1) = 11");
        told.small().run("put(0, 1); erase(0, 7); power(0); tick(9); FILLED = 1; torn_are(); power(1); tick(9); FILLED = 1");
    }

    private void tune() {
        told.sentence("Promise 14", "TUNED by the host: 21 is SENT with its CHECK by ARGUMENTS 0 to 15, one after the other;");
        told.small().run("tune() = 3; POINT = 3; NOTES = 0; STATE = CHOSEN");
        told.small().run("FROM(1); tune() = 3; NOTES = 8; TO(2) = NO");
        told.small().run("FROM(1); TO(2); tune() = 3; STATUS(1) = 1024 + 8; ERASE(0) = NO");
        told.small().run("COUNT(2); tune() = 3; SEND_MANY(0); MORE = 2");
        told.sentence("Promise 14", "of the longest row round by 16 that answered 1 (of several that with the lowest first POINT;"
            + " if all 16 did, that from 0 on), the middle one (its length less 1, by 2, cut, behind its first) is SENT once more: it.");
        for (int speed = 0; speed <= 3; speed++) {
            for (int heat = 0; heat <= 15; heat++) {
                int middle = (3 + 5 * speed + heat) % 16;
                Run x = told.small().run("SWITCH(" + (4 * speed + 1) + "); warm(" + heat + "); TUNE(" + (middle + 8) % 16
                    + "); tune() = " + middle + "; POINT = " + middle + "; IN_WINDOW = 1; NOTES = 0");
                int inside = 0;
                for (int point = 0; point < 16; point++) {
                    x.run("TUNE(" + point + ")");
                    inside += x.answers().get(x.answers().size() - 1).endsWith("-> 1") ? 1 : 0;
                }
                // one row, never all 16: so there are never several, and there is always one
                told.same("POINTS in the WINDOW at SPEED " + speed + ", HEAT " + heat, inside, 15 - 4 * speed);
            }
        }
        told.sentence("Promise 14", "NONE: an answer was none (those behind it are not SENT);");
        told.card().run("tune() = NONE; NOTES = 0; power(1); tune() = NONE; NOTES = 2; POINT = 0");
        for (int state = 0; state <= 7; state++) {
            if (state != 4) {
                told.inState(state).run("tune() = NONE; NOTES = 2; STATE = " + state + "; POINT = " + (state < 4 ? 0 : 3));
            }
        }
        told.small().run("TUNE(9); type(k); LOCK(5) = 1; tune() = NONE; NOTES = 2; POINT = 9; LOCK(0) = 1; tune() = 3");
        told.sentence("Promise 14", "NO: no POINT answered 1.");
        for (int heat = 0; heat <= 15; heat++) {
            told.small().run("SWITCH(14); warm(" + heat + "); tune() = " + (18 + heat) % 16);
        }
    }

    private void block() {
        told.sentence("Promise 15", "Of a BLOCK: CONTENT (what = 0), 1: TORN, 0 (1), its GROUP (2).");
        told.small().run("put(0, 0); put(7, 65534); TAKE_ONE(6); fits(1); tick(1); power(0); block(0, 0) = 0; block(0, 1) = 0; block(0, 2) = 0;"
            + "block(7, 0) = 65534; block(7, 1) = 0; block(7, 2) = 2; block(6, 0) = 65535; block(6, 1) = 1; block(6, 2) = 2;"
            + "block(2, 2) = 0; block(3, 2) = 1; block(5, 2) = 1");
        told.sentence("Promise 15", "BAD.");
        for (String b : new String[] {"8", "63", "64", "-1", "LEAST", "MOST"}) {
            told.small().run("block(" + b + ", 0) = BAD; block(" + b + ", 1) = BAD; block(" + b + ", 2) = BAD");
        }
        for (String what : new String[] {"3", "-1", "LEAST", "MOST"}) {
            told.small().run("block(0, " + what + ") = BAD; block(7, " + what + ") = BAD; block(8, " + what + ") = BAD");
        }
    }

    private void latestAndWord() {
        told.sentence("Promise 16", "The i-th of LATEST.");
        told.small().run("put(5, 1); latest(0) = 5; put(2, 1); latest(0) = 2; latest(1) = 5; power(0); latest(1) = 5");
        told.sentence("Promise 16", "BAD (below 0); NONE: not so many.");
        for (String i : BEYOND) {
            told.small().run("put(5, 1); latest(" + i + ") = " + (i.equals("MOST") ? "NONE" : "BAD"));
        }
        told.small().run("latest(0) = NONE; put(5, 1); latest(0) = 5; latest(1) = NONE; latest(63) = NONE; latest(64) = NONE");
        told.card().run("make(64, 8, 0, 0); toChosen(); SWITCH(2); TAKE_MANY(0)").times(64, "fits(1); tick(1)")
            .run("latest(63) = 0; latest(64) = NONE; latest(MOST) = NONE; latest(-1) = BAD");
        told.sentence("Promise 17", "The i-th letter of the WORD, as in ASCII; how many it has (i = -1; 0: none).");
        told.small().run("word(-1) = 0; type(~ A); LOCK(1); word(-1) = 3; word(0) = 126; word(1) = 32; word(2) = 65; power(0); word(-1) = 3;"
            + "word(2) = 65");
        told.small().run("type(12345678); LOCK(1); word(-1) = 8; word(0) = 49; word(7) = 56");
        told.sentence("Promise 17", "BAD (below -1); NONE: not so many.");
        told.small().run("word(-2) = BAD; word(LEAST) = BAD; word(0) = NONE; word(MOST) = NONE");
        told.small().run("type(12345678); LOCK(1); word(-2) = BAD; word(LEAST) = BAD; word(7) = 56; word(8) = NONE; word(MOST) = NONE");
        told.small().run("type(abc); LOCK(1); type(abcz); LOCK(1); word(0) = 122; word(1) = NONE; LOCK(2) = NO; type(z); LOCK(2) = 1; word(0) = NONE");
    }

    private void later() {
        told.sentence("Promise 18", "Of what is LATER, the i-th: its BLOCK (what = 0), CONTENT (1), TICKS it had (2); how many (i = -1).");
        told.inState(6).run("later(-1, 0) = 0; fits(0); fits(65535); tick(3); later(0, 0) = 0; later(0, 1) = 0; later(0, 2) = 3; later(1, 0) = 1;"
            + "later(1, 1) = 65535; later(1, 2) = 0; later(-1, 0) = 2; later(-1, 1) = 2; later(-1, 2) = 2; tick(1); later(0, 0) = 1;"
            + "later(0, 2) = 0; later(-1, 0) = 1; tick(4); later(-1, 0) = 0");
        told.sentence("Promise 18", "BAD (i below -1; what not 0 to 2); NONE: not so many.");
        for (String filled : new String[] {"", "fits(1); fits(2)"}) {
            for (String bad : new String[] {"-2, 0", "LEAST, 0", "0, -1", "0, 3", "0, LEAST", "0, MOST", "-1, -1", "-1, 3", "-2, 3", "2, 3", "MOST, 3"}) {
                told.inState(6).run(filled + "; later(" + bad + ") = BAD");
            }
            told.inState(6).run(filled + "; later(2, 0) = NONE; later(2, 1) = NONE; later(2, 2) = NONE; later(MOST, 0) = NONE");
        }
        told.inState(6).run("later(0, 0) = NONE; later(0, 1) = NONE; later(0, 2) = NONE; fits(1); later(0, 2) = 0; later(1, 0) = NONE; later(1, 2) = NONE");
        told.inState(7).run("power(0); later(-1, 0) = 0; later(0, 0) = NONE");
    }

    private void countOfTheCard() {
        told.sentence("Promise 19", "How many: 0 B, 1 G, 2 STATE (NONE: no power),");
        told.card().run("make(64, 8, 0, 0); count(0) = 64; count(1) = 8; count(2) = NONE; power(1); count(2) = 0; count(0) = 64; count(1) = 8");
        told.sentence("Promise 19", "3 ADDRESS, 4 LINES, 5 SPEED, 6 POINT, 7 whether it is LOCKED (1, 0), 8 NOTES,");
        told.small().run("SWITCH(14); TUNE(9); type(k); LOCK(5); tell(63, 0); count(3) = 1; count(4) = 2; count(5) = 3; count(6) = 9;"
            + "count(7) = 1; count(8) = 2");
        told.sentence("Promise 19", "9 WELL, 10 GROUPS to be erased, 11 BLOCKS that are TORN, 12 TICKS, 13 HEAT, 14 letters of THE TEXT,");
        told.small().run("TAKE_MANY(0); fits(1); fits(2); tick(4); count(9) = 1; tick(1); power(0); count(9) = 1; count(11) = 1; count(12) = 5;"
            + "warm(15); count(13) = 15; type(abcd); count(14) = 4; count(10) = 0");
        told.small().run("erase(0, 7); count(10) = 3; tick(1); count(10) = 3; tick(1); count(10) = 2; tick(3); count(10) = 1; power(0);"
            + "count(10) = 0; count(11) = 2");
        told.card().run("make(64, 8, 0, 0); toChosen(); erase(0, 63); tick(1); power(0); count(11) = 8; toChosen(); erase(63, 63); tick(1); power(0);"
            + "count(11) = 16");
    }

    private void countOfTheRest() {
        told.sentence("Promise 19", "15 the next BLOCK (NONE: neither SENDING nor TAKING, or no BLOCK is left),");
        for (int state = -1; state <= 7; state++) {
            told.inState(state).run("count(15) = " + (state == 5 || state == 6 ? "0" : "NONE"));
        }
        told.small().run("SEND_MANY(6); count(15) = 6; get(); count(15) = 7; get(); count(15) = NONE");
        told.small().run("TAKE_MANY(6); count(15) = 6; fits(1); count(15) = 7; fits(2); count(15) = NONE; STATE = TAKING; fits(3) = NO;"
            + "count(15) = NONE; tick(8); count(15) = NONE; power(0); count(15) = NONE");
        told.small().run("TAKE_MANY(3); give(1, 0) = 0; count(15) = 3; fits(1) = NO; count(15) = 3");
        told.sentence("Promise 19", "16 for how many BLOCKS more it is still SENDING or TAKING (those GOT, GIVEN well are not among them;"
            + " NONE: as many as may be, or neither),");
        for (int state = -1; state <= 7; state++) {
            told.inState(state).run("count(16) = NONE");
        }
        told.small().run("COUNT(3); count(16) = NONE; SEND_MANY(0); count(16) = 3; get(); count(16) = 2; warm(8); get() = NONE; count(16) = 2; warm(0);"
            + "get(); count(16) = 1; get(); count(16) = NONE");
        told.small().run("COUNT(3); TAKE_MANY(0); count(16) = 3; fits(1); count(16) = 2; tick(4); count(16) = 2; fits(1); count(16) = 1; fits(1);"
            + "count(16) = NONE; STATE = WRITING");
        told.small().run("COUNT(3); TAKE_MANY(0); fits(1); fits(2); fits(3) = FULL; count(16) = 1; tick(4); give(3, 0) = 0; count(16) = 1;"
            + "fits(3) = NO; count(16) = 1");
        told.small().run("SEND_ONE(0); count(16) = 1; STOP(0); count(16) = NONE; TAKE_ONE(0); count(16) = 1; power(0); count(16) = NONE");
        told.small().run("COUNT(65535); SEND_MANY(6); count(16) = 65535; get(); count(16) = 65534; get(); count(16) = NONE");
        told.sentence("Promise 19", "17 BLOCKS that are not 65535, 18 whether POINT is in the WINDOW (1, 0).");
        told.small().run("count(17) = 0; put(0, 65534); count(17) = 1; put(1, 65535); count(17) = 1; put(2, 0); count(17) = 2; put(0, 65535);"
            + "count(17) = 1; TAKE_ONE(2); fits(1); tick(1); count(17) = 1; power(0); count(17) = 0");
        told.small().run("TUNE(10); count(18) = 1; TUNE(11); count(18) = 0; TUNE(12); count(18) = 1; warm(1); count(18) = 0; warm(2); count(18) = 1");
        told.sentence("Promise 19", "BAD.");
        for (String what : new String[] {"19", "20", "-1", "LEAST", "MOST"}) {
            told.card().run("count(" + what + ") = BAD; power(1); count(" + what + ") = BAD");
        }
        told.sentence("Promise 19", "(3 to 8, 10: 0 without power; 18: by POINT, SPEED 0.)");
        told.small().run("SWITCH(14); TUNE(9); type(k); LOCK(5); tell(63, 0); power(0); count(3) = 0; count(4) = 0; count(5) = 0; count(6) = 0;"
            + "count(7) = 0; count(8) = 0; count(10) = 0; make(8, 3, 0, 7); count(3) = 0; count(6) = 0; count(7) = 0; count(8) = 0");
        told.small().run("erase(0, 7); power(0); count(10) = 0; power(1); count(10) = 0");
        for (int heat = 0; heat <= 15; heat++) {
            told.small().run("SWITCH(14); TUNE(9); power(0); warm(" + heat + "); count(18) = " + (heat == 5 ? 0 : 1));
            told.card().run("warm(" + heat + "); count(18) = " + (heat == 5 ? 0 : 1) + "; power(1); count(18) = " + (heat == 5 ? 0 : 1));
        }
    }
}
