import java.util.Random;

/** Runs of calls drawn by a fixed seed, on BlockCard and on PlainCard: every answer must be the same. */
public final class RandomRunsTest {
    private static final int RUNS = 10000;
    // with the whole asked behind them an object stays within its 512 calls
    private static final int STEPS = 280;
    private static final int[] COMMANDS = {0, 1, 2, 3, 6, 7, 12, 13, 17, 18, 21, 22, 23, 24, 25, 32, 33, 38, 42};
    private static final int[] EDGES = {-1, 0, 1, 2, 3, 4, 7, 8, 15, 16, 31, 32, 63, 64, 127, 128, 199, 400, 401,
        65534, 65535, 65536, Integer.MIN_VALUE, Integer.MAX_VALUE};

    private final Random random;
    private BlockCard card = new BlockCard();
    private PlainCard plain = new PlainCard();
    private final int[] seenStates = new int[9];
    private final StringBuilder run = new StringBuilder();
    private int calls = 0;
    private int got, want;

    private RandomRunsTest(long seed) {
        random = new Random(seed);
    }

    public static void main(String[] args) {
        int[] seen = new int[9];
        for (int seed = 0; seed < RUNS; seed++) {
            RandomRunsTest one = new RandomRunsTest(seed);
            if (!one.goes()) {
                System.out.println("seed " + seed + ":\n" + one.run);
                System.out.println("answered " + one.got + ", due is " + one.want);
                System.exit(1);
            }
            for (int i = 0; i < 9; i++) {
                seen[i] += one.seenStates[i];
            }
        }
        for (int i = 0; i < 9; i++) {
            if (seen[i] < RUNS) {
                System.out.println("the runs are hardly ever in STATE " + (i - 1));
                System.exit(1);
            }
        }
        System.out.println("Random runs: " + RUNS + " runs as due");
    }

    private int below(int bound) {
        return random.nextInt(bound);
    }

    private int edge() {
        return EDGES[below(EDGES.length)];
    }

    private boolean goes() {
        boolean same = true;
        while (same && calls < STEPS) {
            int state = plain.count(2);
            seenStates[state < 0 ? 0 : state + 1]++;
            same = step(state);
        }
        return same && wholeIsSame();
    }

    private boolean is(String call, int got, int want) {
        calls++;
        run.append(call).append(" = ").append(got).append('\n');
        this.got = got;
        this.want = want;
        return got == want;
    }

    private boolean step(int state) {
        switch (below(20)) {
            case 0: return rare();
            case 1: return asked();
            case 2: return ticks(1 + below(6));
            case 3: return asked();
            case 4: return edgeCall();
            case 5: return anyCommand();
            case 6: return anyCommand();
            case 7: return text();
            default: return fitting(state);
        }
    }

    private boolean rare() {
        switch (below(12)) {
            case 0: {
                int b = 4 + below(10);
                int g = 1 + below(8);
                int idleness = below(3);
                return is("make " + b + " " + g + " " + idleness, card.make(b, g, idleness, 7), plain.make(b, g, idleness, 7));
            }
            case 1:
            case 2:
                return is("power 0", card.power(0), plain.power(0));
            case 3:
            case 4:
            case 5: {
                int heat = below(16);
                return is("warm " + heat, card.warm(heat), plain.warm(heat));
            }
            case 6:
                return ticks(1 + below(400));
            default:
                return is("tune", card.tune(), plain.tune());
        }
    }

    private boolean text() {
        if (below(4) == 0) {
            return is("wipe", card.wipe(), plain.wipe());
        }
        int letter = 97 + below(2);
        return is("write " + letter, card.write(letter), plain.write(letter));
    }

    private boolean ticks(int n) {
        return is("tick " + n, card.tick(n), plain.tick(n));
    }

    private boolean anyCommand() {
        int c = below(3) == 0 ? below(64) : COMMANDS[below(COMMANDS.length)];
        if (c == 0 && below(4) > 0) {
            c = 13;
        }
        return tell(c, below(4) == 0 ? below(65536) : below(20));
    }

    private boolean tell(int c, int a) {
        if (below(30) == 0) {
            int check = below(128);
            return is("send " + c + " " + a + " " + check, card.send(c, a, check), plain.send(c, a, check));
        }
        return is("tell " + c + " " + a, card.tell(c, a), plain.tell(c, a));
    }

    /** What leads on from this STATE, so that the runs come far. */
    private boolean fitting(int state) {
        int b = plain.count(0);
        switch (state) {
            case 0: return tell(1, 0);
            case 1: return tell(2, 0);
            case 2: return tell(3, 0);
            case 3: return below(8) == 0 ? tell(3, 0) : tell(7, plain.count(3));
            case 4: return whenChosen(b);
            case 5: return below(10) == 0 ? tell(12, 0) : is("get", card.get(), plain.get());
            case 6:
                if (below(10) == 0) {
                    return tell(12, 0);
                }
                return below(2) == 0 ? ticks(1 + below(3)) : given();
            case 7: return below(8) == 0 ? tell(13, plain.count(3)) : ticks(1 + below(3));
            default: return is("power 1", card.power(1), plain.power(1));
        }
    }

    private boolean given() {
        int content = below(3) == 0 ? 65535 - below(2) : below(65536);
        int check = below(20) == 0 ? below(128) : Checks.ofContent(content);
        return is("give " + content + " " + check, card.give(content, check), plain.give(content, check));
    }

    private boolean whenChosen(int b) {
        int place = below(b + 1);
        switch (below(18)) {
            case 0: return tell(6, below(18));
            case 1: return tell(21, below(20));
            case 2: return tell(23, below(5));
            case 3: return tell(17, place);
            case 4: return tell(18, place);
            case 5:
            case 6: return tell(24, place);
            case 7:
            case 8: return tell(25, place);
            case 9: return tell(42, below(10));
            case 10: return tell(42, below(2));
            case 11: return tell(13, plain.count(3));
            case 12: return tell(33, place) && (below(2) == 0 || tell(38, 0));
            case 13: return tell(42, new int[] {0, 1, 2, 4, 5, 8}[below(6)]);
            default: return tell(32, below(b)) && (below(6) > 0 || anyCommand())
                && tell(33, place) && (below(6) > 0 || anyCommand()) && tell(38, 0);
        }
    }

    private boolean asked() {
        int i = below(6) - 2;
        int what = below(4) - 1 + below(2);
        switch (below(6)) {
            case 0: {
                int place = below(plain.count(0) + 2) - 1;
                return is("block " + place + " " + what, card.block(place, what), plain.block(place, what));
            }
            case 1: return is("latest " + i, card.latest(i), plain.latest(i));
            case 2: return is("word " + i, card.word(i), plain.word(i));
            case 3: return is("later " + i + " " + what, card.later(i, what), plain.later(i, what));
            default: {
                int which = below(21) - 1;
                return is("count " + which, card.count(which), plain.count(which));
            }
        }
    }

    private boolean edgeCall() {
        int a = edge();
        int b = edge();
        int c = edge();
        switch (below(16)) {
            case 0: return is("make " + a + " " + b, card.make(a, b, c, 1), plain.make(a, b, c, 1));
            case 1: return is("power " + b, b == 0 || card.power(b) == plain.power(b) ? 0 : 1, 0);
            case 2: return is("warm " + a, card.warm(a), plain.warm(a));
            case 3: return is("write " + a, card.write(a), plain.write(a));
            case 4: return is("check " + a + " " + b, card.check(a, b), plain.check(a, b));
            case 5: return is("checkOf " + a, card.checkOf(a), plain.checkOf(a));
            case 6: return is("send " + a + " " + b + " " + c, card.send(a, b, c), plain.send(a, b, c));
            case 7: return a == 0 || is("tell " + a + " " + b, card.tell(a, b), plain.tell(a, b));
            case 8: return is("give " + a + " " + b, card.give(a, b), plain.give(a, b));
            case 9: return is("get", card.get(), plain.get());
            case 10: return is("tick " + a, card.tick(a), plain.tick(a));
            case 11: return is("block " + a + " " + b, card.block(a, b), plain.block(a, b));
            case 12: return is("latest " + a, card.latest(a), plain.latest(a));
            case 13: return is("word " + a, card.word(a), plain.word(a));
            case 14: return is("later " + a + " " + b, card.later(a, b), plain.later(a, b));
            default: return is("count " + a, card.count(a), plain.count(a));
        }
    }

    private boolean wholeIsSame() {
        boolean same = true;
        for (int what = 0; what <= 18 && same; what++) {
            same = is("count " + what, card.count(what), plain.count(what));
        }
        for (int place = 0; place < plain.count(0) && same; place++) {
            same = is("block " + place + " 0", card.block(place, 0), plain.block(place, 0))
                && is("block " + place + " 1", card.block(place, 1), plain.block(place, 1));
        }
        for (int i = 0; i < 65 && same; i++) {
            same = is("latest " + i, card.latest(i), plain.latest(i));
        }
        return same;
    }
}
