import java.util.ArrayDeque;
import java.util.ArrayList;
import java.util.Arrays;
import java.util.List;
import java.util.Set;
import java.util.TreeMap;
import java.util.TreeSet;

/**
 * The document told a second time, by Java's collections and without a thought for LANGUAGE.md, so
 * that a slip in BlockCard's rows and counters shows as a difference.
 */
final class PlainCard {
    private static final int BAD = -1, NO = -2, FULL = -3, NONE = -4;
    private static final Set<Integer> STARRED = Set.of(6, 21, 23, 17, 18, 24, 25, 22, 32, 33, 38);

    private record Waiting(int block, int content, int[] ticks) {
    }

    private int b = 32, g = 4, idleness = 2, number = 1000;
    private int heat = 0, ticks = 0, well = 0;
    private String text = "", word = "";
    private final TreeMap<Integer, Integer> contents = new TreeMap<>();
    private final TreeSet<Integer> torn = new TreeSet<>();
    private final List<Integer> latest = new ArrayList<>();

    private String state = "OFF";
    private int address, lines, speed, point, woken;
    private boolean locked;
    private final TreeSet<Integer> notes = new TreeSet<>();
    private final ArrayDeque<Waiting> later = new ArrayDeque<>();
    private final TreeSet<Integer> toErase = new TreeSet<>();
    private int eraseTicks;
    private Integer countForNext;
    private Integer from, to;
    private String lastOk = "";
    private int next;
    private Integer more;
    private boolean wrong;

    int make(int b, int g, int idleness, int number) {
        if (b < 4 || b > 64 || g < 1 || g > 8 || idleness < 0 || idleness > 9 || number < 0 || number > 65535) {
            return BAD;
        }
        this.b = b;
        this.g = g;
        this.idleness = idleness;
        this.number = number;
        contents.clear();
        torn.clear();
        latest.clear();
        word = "";
        well = 0;
        ticks = 0;
        fresh("OFF");
        return b;
    }

    private void fresh(String state) {
        this.state = state;
        address = lines = speed = point = woken = 0;
        locked = state.equals("IDLE") && !word.isEmpty();
        notes.clear();
        later.clear();
        toErase.clear();
        eraseTicks = 0;
        countForNext = null;
        from = to = null;
        lastOk = "";
    }

    private void cut() {
        if (!later.isEmpty() && later.peekFirst().ticks()[0] >= 1) {
            tear(later.peekFirst().block());
        }
        if (!toErase.isEmpty() && eraseTicks >= 1) {
            for (int i = 0; i < b; i++) {
                if (i / g == toErase.first()) {
                    tear(i);
                }
            }
        }
        fresh("OFF");
    }

    private void tear(int block) {
        contents.remove(block);
        torn.add(block);
        latest.remove(Integer.valueOf(block));
    }

    int power(int on) {
        if (on != 0 && on != 1) {
            return BAD;
        }
        if (state.equals("OFF") == (on == 0)) {
            return NO;
        }
        if (on == 0) {
            cut();
        } else {
            fresh("IDLE");
        }
        return 1;
    }

    int warm(int heat) {
        if (heat < 0 || heat > 15) {
            return BAD;
        }
        int was = this.heat;
        this.heat = heat;
        return was;
    }

    int write(int letter) {
        if (letter < 32 || letter > 126) {
            return BAD;
        }
        if (text.length() == 200) {
            return FULL;
        }
        text += (char) letter;
        return text.length();
    }

    int wipe() {
        int was = text.length();
        text = "";
        return was;
    }

    private static boolean isCommand(int c, int a) {
        return c >= 0 && c < 64 && a >= 0 && a < 65536;
    }

    int check(int c, int a) {
        return isCommand(c, a) ? Checks.ofCommand(c, a) : BAD;
    }

    int checkOf(int content) {
        return content >= 0 && content < 65536 ? Checks.ofContent(content) : BAD;
    }

    int tell(int c, int a) {
        return isCommand(c, a) ? send(c, a, Checks.ofCommand(c, a)) : BAD;
    }

    int send(int c, int a, int check) {
        if (!isCommand(c, a) || check < 0 || check > 127) {
            return BAD;
        }
        if (state.equals("OFF")) {
            return NONE;
        }
        if (check != Checks.ofCommand(c, a)) {
            notes.add(1);
            return NONE;
        }
        if (!statesFor(c).contains(state) || locked && STARRED.contains(c)) {
            notes.add(2);
            return NONE;
        }
        boolean goesOn = c == 13 || c == 33 && lastOk.equals("32") || c == 38 && lastOk.equals("33");
        if ((from != null || to != null) && !goesOn) {
            from = to = null;
            notes.add(8);
        }
        String before = lastOk;
        int answer = perform(c, a, before);
        if (c != 13) {
            lastOk = (c == 32 || c == 33) && answer == 0 ? "" + c : "";
        }
        return answer;
    }

    private static List<String> statesFor(int c) {
        if (STARRED.contains(c) || c == 42) {
            return List.of("CHOSEN");
        }
        return switch (c) {
            case 0 -> List.of("IDLE", "READY", "NAMED", "STANDBY", "CHOSEN", "SENDING", "TAKING", "WRITING");
            case 1 -> List.of("IDLE");
            case 2 -> List.of("READY");
            case 3 -> List.of("NAMED", "STANDBY");
            case 7 -> List.of("STANDBY", "CHOSEN");
            case 13 -> List.of("STANDBY", "CHOSEN", "SENDING", "TAKING", "WRITING");
            case 12 -> List.of("SENDING", "TAKING");
            default -> List.of();
        };
    }

    private int perform(int c, int a, String before) {
        switch (c) {
            case 0:
                cut();
                fresh("IDLE");
                return 0;
            case 1:
                woken++;
                state = woken > idleness ? "READY" : "IDLE";
                return woken > idleness ? 1 : 0;
            case 2:
                state = "NAMED";
                return number;
            case 3:
                state = "STANDBY";
                return ++address;
            case 7:
                boolean answers = state.equals("STANDBY") && a == address;
                state = a == address ? "CHOSEN" : "STANDBY";
                return answers ? 1 : NONE;
            case 13:
                if (a != address) {
                    return NONE;
                }
                int status = 256 * stateNumber() + (locked ? 128 : 0) + noteSum();
                notes.clear();
                return status;
            case 6:
                int s = a >> 2;
                int l = a & 3;
                if (s > 3 || l == 3 || l == 0 && s >= 2) {
                    notes.add(32);
                } else {
                    speed = s;
                    lines = l;
                }
                return 4 * speed + lines;
            case 21:
                point = a & 15;
                return window() ? 1 : 0;
            case 23:
                countForNext = a;
                return a;
            case 17, 18, 24, 25:
                return stream(c, a);
            case 12:
                int size = later.size();
                state = size > 0 ? "WRITING" : "CHOSEN";
                return size;
            case 22:
                return well;
            case 32, 33, 38:
                return erasing(c, a, before);
            default:
                return lock(a);
        }
    }

    private int stream(int c, int a) {
        if (a >= b) {
            notes.add(4);
            return NO;
        }
        state = c < 20 ? "SENDING" : "TAKING";
        next = a;
        wrong = false;
        boolean many = c == 18 || c == 25;
        more = many ? countForNext : Integer.valueOf(1);
        if (more != null && more == 0) {
            more = null;
        }
        countForNext = null;
        if (c >= 24) {
            well = 0;
        }
        return 0;
    }

    private int erasing(int c, int a, String before) {
        if (c != 38 && a >= b) {
            notes.add(4);
            from = to = null;
            return NO;
        }
        if (c == 32) {
            from = a;
            return 0;
        }
        if (c == 33) {
            if (!before.equals("32") || a < from) {
                notes.add(8);
                from = to = null;
                return NO;
            }
            to = a;
            return 0;
        }
        if (!before.equals("33")) {
            notes.add(8);
            return NO;
        }
        for (int i = from; i <= to; i++) {
            toErase.add(i / g);
        }
        from = to = null;
        eraseTicks = 0;
        state = "WRITING";
        return toErase.size();
    }

    private int lock(int a) {
        boolean is = !word.isEmpty() && text.equals(word);
        if (a == 0 && locked && is) {
            locked = false;
            return 1;
        }
        if (a == 1 || a == 5) {
            String newWord = null;
            if (word.isEmpty()) {
                newWord = text;
            } else if (!locked && text.startsWith(word)) {
                newWord = text.substring(word.length());
            }
            if (newWord != null && newWord.length() >= 1 && newWord.length() <= 8) {
                word = newWord;
                locked = a == 5;
                return 1;
            }
        }
        if (a == 2 && !locked && is) {
            word = "";
            return 1;
        }
        if (a == 4 && !locked && is) {
            locked = true;
            return 1;
        }
        if (a == 8 && locked) {
            locked = false;
            word = "";
            for (int i = 0; i < b; i++) {
                toErase.add(i / g);
            }
            eraseTicks = 0;
            state = "WRITING";
            return toErase.size();
        }
        notes.add(16);
        return NO;
    }

    private boolean window() {
        int middle = 3 + 5 * speed + heat;
        for (int away = -(7 - 2 * speed); away <= 7 - 2 * speed; away++) {
            if ((middle + away + 160) % 16 == point) {
                return true;
            }
        }
        return false;
    }

    private int noteSum() {
        return notes.stream().mapToInt(Integer::intValue).sum();
    }

    private int stateNumber() {
        return Arrays.asList("IDLE", "READY", "NAMED", "STANDBY", "CHOSEN", "SENDING", "TAKING", "WRITING").indexOf(state);
    }

    int give(int content, int check) {
        if (content < 0 || content > 65535 || check < 0 || check > 127) {
            return BAD;
        }
        if (!state.equals("TAKING") || wrong || more != null && more == 0) {
            return NO;
        }
        if (next >= b) {
            notes.add(4);
            return NO;
        }
        if (later.size() == 2) {
            return FULL;
        }
        if (!window() || check != Checks.ofContent(content)) {
            notes.add(64);
            wrong = true;
            return 0;
        }
        later.addLast(new Waiting(next++, content, new int[1]));
        if (more != null && --more == 0) {
            state = "WRITING";
        }
        return 1;
    }

    int get() {
        if (!state.equals("SENDING")) {
            return NO;
        }
        if (!window() || torn.contains(next)) {
            return NONE;
        }
        int content = contents.getOrDefault(next++, 65535);
        if (more != null) {
            more--;
        }
        if (next == b || more != null && more == 0) {
            state = "CHOSEN";
        }
        return content;
    }

    int tick(int n) {
        if (n < 1 || n > 400) {
            return BAD;
        }
        for (int i = 0; i < n; i++) {
            ticks++;
            if (state.equals("TAKING") || state.equals("WRITING")) {
                oneTick();
            }
        }
        return ticks;
    }

    private void oneTick() {
        if (!later.isEmpty()) {
            Waiting first = later.peekFirst();
            first.ticks()[0]++;
            int takes = lines == 0 ? 4 : lines == 1 ? 2 : 1;
            if (first.ticks()[0] >= takes) {
                later.removeFirst();
                contents.put(first.block(), first.content());
                torn.remove(first.block());
                latest.remove(Integer.valueOf(first.block()));
                latest.add(0, first.block());
                well++;
            }
        } else if (!toErase.isEmpty()) {
            eraseTicks++;
            if (eraseTicks == 2) {
                eraseTicks = 0;
                int group = toErase.pollFirst();
                contents.keySet().removeIf(block -> block / g == group);
                torn.removeIf(block -> block / g == group);
                latest.removeIf(block -> block / g == group);
            }
        }
        if (state.equals("WRITING") && later.isEmpty() && toErase.isEmpty()) {
            state = "CHOSEN";
        }
    }

    int tune() {
        boolean[] good = new boolean[16];
        for (int p = 0; p < 16; p++) {
            int answer = tell(21, p);
            if (answer == NONE) {
                return NONE;
            }
            good[p] = answer == 1;
        }
        int bestFirst = -1;
        int bestLength = 0;
        for (int length = 16; length >= 1 && bestFirst < 0; length--) {
            for (int first = 0; first < 16 && bestFirst < 0; first++) {
                boolean all = true;
                for (int i = 0; i < length; i++) {
                    all &= good[(first + i) % 16];
                }
                if (all) {
                    bestFirst = first;
                    bestLength = length;
                }
            }
        }
        if (bestFirst < 0) {
            return NO;
        }
        int middle = (bestFirst + (bestLength - 1) / 2) % 16;
        tell(21, middle);
        return middle;
    }

    int block(int block, int what) {
        if (block < 0 || block >= b || what < 0 || what > 2) {
            return BAD;
        }
        return what == 0 ? contents.getOrDefault(block, 65535) : what == 1 ? torn.contains(block) ? 1 : 0 : block / g;
    }

    int latest(int i) {
        return i < 0 ? BAD : i < latest.size() ? latest.get(i) : NONE;
    }

    int word(int i) {
        return i < -1 ? BAD : i == -1 ? word.length() : i < word.length() ? word.charAt(i) : NONE;
    }

    int later(int i, int what) {
        if (i < -1 || what < 0 || what > 2) {
            return BAD;
        }
        if (i == -1) {
            return later.size();
        }
        if (i >= later.size()) {
            return NONE;
        }
        Waiting one = new ArrayList<>(later).get(i);
        return what == 0 ? one.block() : what == 1 ? one.content() : one.ticks()[0];
    }

    int count(int what) {
        boolean streaming = state.equals("SENDING") || state.equals("TAKING");
        return switch (what) {
            case 0 -> b;
            case 1 -> g;
            case 2 -> state.equals("OFF") ? NONE : stateNumber();
            case 3 -> address;
            case 4 -> lines;
            case 5 -> speed;
            case 6 -> point;
            case 7 -> locked ? 1 : 0;
            case 8 -> noteSum();
            case 9 -> well;
            case 10 -> toErase.size();
            case 11 -> torn.size();
            case 12 -> ticks;
            case 13 -> heat;
            case 14 -> text.length();
            case 15 -> streaming && next < b ? next : NONE;
            case 16 -> streaming && more != null ? more : NONE;
            case 17 -> (int) contents.values().stream().filter(content -> content != 65535).count();
            case 18 -> window() ? 1 : 0;
            default -> BAD;
        };
    }
}
