/** A small card of blocks, as ../shared/DOC.md tells it. */
public final class BlockCard {
    public static final int BAD = -1, NO = -2, FULL = -3, NONE = -4;

    private static final int OFF = -1, IDLE = 0, READY = 1, NAMED = 2, STANDBY = 3;
    private static final int CHOSEN = 4, SENDING = 5, TAKING = 6, WRITING = 7;

    private static final int RESET = 0, WAKE = 1, NAME = 2, ADDRESS = 3, SWITCH = 6, CHOOSE = 7;
    private static final int STOP = 12, STATUS = 13, SEND_ONE = 17, SEND_MANY = 18, TUNE = 21;
    private static final int HOW_MANY = 22, COUNT = 23, TAKE_ONE = 24, TAKE_MANY = 25;
    private static final int FROM = 32, TO = 33, ERASE = 38, LOCK = 42;

    private static final int NOTE_CHECK = 1, NOTE_COMMAND = 2, NOTE_BLOCK = 4, NOTE_ERASE = 8;
    private static final int NOTE_LOCK = 16, NOTE_SWITCH = 32, NOTE_CONTENT = 64;

    private static final int MAX_BLOCKS = 64, MAX_TEXT = 200, MAX_WORD = 8, MAX_LATER = 2;
    private static final int MAX_NUMBER = 65535, MAX_CHECK = 127, MAX_COMMAND = 63;
    private static final int EMPTY = 65535;
    private static final int POINTS = 16;

    private final Memory memory;
    private final Letters text;
    private final Letters secret;
    private final Queue queue;
    private final Eraser eraser;
    private final Stream stream;
    private final Link link;
    private int idleness;
    private int number;
    private int well;
    private int ticks;
    private int heat;
    private int state;
    private int address;
    private int notes;
    private int woken;
    private boolean locked;

    public BlockCard() {
        memory = new Memory();
        text = new Letters(MAX_TEXT);
        secret = new Letters(MAX_WORD);
        queue = new Queue();
        eraser = new Eraser();
        stream = new Stream();
        link = new Link();
        renew(32, 4, 2, 1000);
    }

    public int make(int b, int g, int idleness, int number) {
        if (isOutside(b, 4, MAX_BLOCKS) || isOutside(g, 1, 8)) {
            return BAD;
        }
        if (isOutside(idleness, 0, 9) || isOutside(number, 0, MAX_NUMBER)) {
            return BAD;
        }
        renew(b, g, idleness, number);
        return b;
    }

    public int power(int on) {
        if (isOutside(on, 0, 1)) {
            return BAD;
        }
        if (isPowered() == (on == 1)) {
            return NO;
        }
        if (on == 1) {
            start();
        } else {
            tearUnfinished();
            goDark();
        }
        return 1;
    }

    public int warm(int heat) {
        if (isOutside(heat, 0, 15)) {
            return BAD;
        }
        int before = this.heat;
        this.heat = heat;
        return before;
    }

    public int write(int letter) {
        if (isOutside(letter, 32, 126)) {
            return BAD;
        }
        if (!text.append(letter)) {
            return FULL;
        }
        return text.length();
    }

    public int wipe() {
        int before = text.length();
        text.empty();
        return before;
    }

    public int check(int command, int argument) {
        if (isNoCommand(command, argument)) {
            return BAD;
        }
        return commandCheck(command, argument);
    }

    public int checkOf(int content) {
        if (isOutside(content, 0, MAX_NUMBER)) {
            return BAD;
        }
        return contentCheck(content);
    }

    public int send(int command, int argument, int check) {
        if (isNoCommand(command, argument) || isOutside(check, 0, MAX_CHECK)) {
            return BAD;
        }
        return hears(command, argument, check) ? obey(command, argument) : NONE;
    }

    public int tell(int command, int argument) {
        if (isNoCommand(command, argument)) {
            return BAD;
        }
        return hears(command, argument, commandCheck(command, argument)) ? obey(command, argument) : NONE;
    }

    public int give(int content, int check) {
        if (isOutside(content, 0, MAX_NUMBER) || isOutside(check, 0, MAX_CHECK)) {
            return BAD;
        }
        if (state != TAKING || stream.isWrong() || stream.isComplete()) {
            return NO;
        }
        if (!memory.has(stream.next())) {
            return refuse(NOTE_BLOCK);
        }
        if (queue.isFull()) {
            return FULL;
        }
        if (!link.isInWindow(heat) || check != contentCheck(content)) {
            note(NOTE_CONTENT);
            stream.spoil();
            return 0;
        }
        queue.append(stream.next(), content);
        stream.advance();
        if (stream.isComplete()) {
            state = WRITING;
        }
        return 1;
    }

    public int get() {
        if (state != SENDING) {
            return NO;
        }
        int place = stream.next();
        if (!link.isInWindow(heat) || memory.isTorn(place)) {
            return NONE;
        }
        stream.advance();
        if (stream.isComplete() || !memory.has(stream.next())) {
            state = CHOSEN;
        }
        return memory.contentOf(place);
    }

    public int tick(int n) {
        if (isOutside(n, 1, 400)) {
            return BAD;
        }
        for (int i = 0; i < n; i++) {
            ticks++;
            work();
        }
        return ticks;
    }

    public int tune() {
        int answered = 0;
        for (int point = 0; point < POINTS; point++) {
            if (!hears(TUNE, point, commandCheck(TUNE, point))) {
                return NONE;
            }
            answered |= obey(TUNE, point) << point;
        }
        if (answered == 0) {
            return NO;
        }
        int middle = middleOfLongestRow(answered);
        if (hears(TUNE, middle, commandCheck(TUNE, middle))) {
            obey(TUNE, middle);
        }
        return middle;
    }

    public int block(int b, int what) {
        if (!memory.has(b) || isOutside(what, 0, 2)) {
            return BAD;
        }
        if (what == 0) {
            return memory.contentOf(b);
        }
        if (what == 1) {
            return asNumber(memory.isTorn(b));
        }
        return memory.groupOf(b);
    }

    public int latest(int i) {
        if (i < 0) {
            return BAD;
        }
        return memory.writtenAt(i);
    }

    public int word(int i) {
        if (i < -1) {
            return BAD;
        }
        if (i == -1) {
            return secret.length();
        }
        return secret.at(i);
    }

    public int later(int i, int what) {
        if (i < -1 || isOutside(what, 0, 2)) {
            return BAD;
        }
        if (i == -1) {
            return queue.size();
        }
        return queue.tellOf(i, what);
    }

    public int count(int what) {
        switch (what) {
            case 0: return memory.size();
            case 1: return memory.groupSize();
            case 2: return isPowered() ? state : NONE;
            case 3: return address;
            case 4: return link.lines();
            case 5: return link.speed();
            case 6: return link.point();
            case 7: return asNumber(locked);
            case 8: return notes;
            case 9: return well;
            case 10: return eraser.groupsLeft();
            case 11: return memory.tornBlocks();
            case 12: return ticks;
            case 13: return heat;
            case 14: return text.length();
            case 15: return isStreaming() && memory.has(stream.next()) ? stream.next() : NONE;
            case 16: return isStreaming() && stream.isCounted() ? stream.left() : NONE;
            case 17: return memory.filledBlocks();
            case 18: return asNumber(link.isInWindow(heat));
            default: return BAD;
        }
    }

    private static boolean isOutside(int value, int least, int most) {
        return value < least || value > most;
    }

    private static boolean isNoCommand(int command, int argument) {
        return isOutside(command, 0, MAX_COMMAND) || isOutside(argument, 0, MAX_NUMBER);
    }

    private static int asNumber(boolean yes) {
        return yes ? 1 : 0;
    }

    private static int commandCheck(int command, int argument) {
        return checkOfBits(65536 * command + argument, 22);
    }

    private static int contentCheck(int content) {
        return checkOfBits(content, 16);
    }

    private static int checkOfBits(int bits, int length) {
        int v = 0;
        for (int i = length - 1; i >= 0; i--) {
            int bit = bits >> i & 1;
            v = (v << 1 & 127) ^ 9 * (bit ^ v >> 6);
        }
        return v;
    }

    /** Which STATES a COMMAND is one in, a bit each; 0 if there is no such COMMAND. */
    private static int statesOf(int command) {
        switch (command) {
            case RESET:
                return 1 << IDLE | 1 << READY | 1 << NAMED | 1 << STANDBY
                    | 1 << CHOSEN | 1 << SENDING | 1 << TAKING | 1 << WRITING;
            case WAKE:
                return 1 << IDLE;
            case NAME:
                return 1 << READY;
            case ADDRESS:
                return 1 << NAMED | 1 << STANDBY;
            case CHOOSE:
                return 1 << STANDBY | 1 << CHOSEN;
            case STATUS:
                return 1 << STANDBY | 1 << CHOSEN | 1 << SENDING | 1 << TAKING | 1 << WRITING;
            case STOP:
                return 1 << SENDING | 1 << TAKING;
            case LOCK:
                return 1 << CHOSEN;
            default:
                return isBarredByLock(command) ? 1 << CHOSEN : 0;
        }
    }

    /** The COMMANDS that the document marks with a star. */
    private static boolean isBarredByLock(int command) {
        switch (command) {
            case SWITCH:
            case TUNE:
            case COUNT:
            case SEND_ONE:
            case SEND_MANY:
            case TAKE_ONE:
            case TAKE_MANY:
            case HOW_MANY:
            case FROM:
            case TO:
            case ERASE:
                return true;
            default:
                return false;
        }
    }

    private static int middleOfLongestRow(int answered) {
        int best = 0;
        int bestLength = 0;
        for (int first = 0; first < POINTS; first++) {
            int length = rowLength(answered, first);
            if (length > bestLength) {
                best = first;
                bestLength = length;
            }
        }
        return (best + (bestLength - 1) / 2) % POINTS;
    }

    private static int rowLength(int answered, int first) {
        int length = 0;
        while (length < POINTS && (answered >> (first + length) % POINTS & 1) == 1) {
            length++;
        }
        return length;
    }

    private void renew(int b, int g, int idleness, int number) {
        this.idleness = idleness;
        this.number = number;
        memory.clear(b, g);
        secret.empty();
        well = 0;
        ticks = 0;
        goDark();
    }

    private boolean isPowered() {
        return state != OFF;
    }

    private boolean isStreaming() {
        return state == SENDING || state == TAKING;
    }

    private void start() {
        goDark();
        state = IDLE;
        locked = secret.length() > 0;
    }

    /** All that is by power alone goes; what the document tells of it without power is 0 or NONE. */
    private void goDark() {
        state = OFF;
        address = 0;
        notes = 0;
        woken = 0;
        locked = false;
        link.clear();
        queue.clear();
        eraser.clear();
        stream.clear();
    }

    private void tearUnfinished() {
        if (queue.firstHasBegun()) {
            memory.tear(queue.tellOf(0, 0));
        }
        if (eraser.groupHasBegun()) {
            memory.tearGroup(eraser.group());
        }
    }

    private void note(int bit) {
        notes |= bit;
    }

    private int refuse(int bit) {
        note(bit);
        return NO;
    }

    /** Whether the COMMAND gets so far that it is done; if not, there is no answer to it. */
    private boolean hears(int command, int argument, int check) {
        if (!isPowered()) {
            return false;
        }
        if (check != commandCheck(command, argument)) {
            note(NOTE_CHECK);
            return false;
        }
        if (!isOpenTo(command)) {
            note(NOTE_COMMAND);
            return false;
        }
        if (eraser.isBrokenOffBy(command)) {
            eraser.forget();
            note(NOTE_ERASE);
        }
        return true;
    }

    private boolean isOpenTo(int command) {
        if (locked && isBarredByLock(command)) {
            return false;
        }
        return (statesOf(command) >> state & 1) == 1;
    }

    private int obey(int command, int argument) {
        switch (command) {
            case RESET: return reset();
            case WAKE: return wake();
            case NAME: return tellNumber();
            case ADDRESS: return takeAddress();
            case CHOOSE: return choose(argument);
            case STATUS: return tellStatus(argument);
            case SWITCH: return switchLines(argument);
            case TUNE: return movePoint(argument);
            case COUNT: return expect(argument);
            case SEND_ONE: return beginStream(SENDING, argument, true);
            case SEND_MANY: return beginStream(SENDING, argument, false);
            case TAKE_ONE: return beginStream(TAKING, argument, true);
            case TAKE_MANY: return beginStream(TAKING, argument, false);
            case STOP: return stop();
            case HOW_MANY: return well;
            case FROM: return eraseFrom(argument);
            case TO: return eraseTo(argument);
            case ERASE: return erase();
            case LOCK: return changeLock(argument);
            default: return NONE;
        }
    }

    private int reset() {
        tearUnfinished();
        start();
        return 0;
    }

    private int wake() {
        woken++;
        if (woken <= idleness) {
            return 0;
        }
        state = READY;
        return 1;
    }

    private int tellNumber() {
        state = NAMED;
        return number;
    }

    private int takeAddress() {
        address++;
        state = STANDBY;
        return address;
    }

    private int choose(int wanted) {
        boolean meant = wanted == address;
        if (state == STANDBY && meant) {
            state = CHOSEN;
            return 1;
        }
        if (!meant) {
            state = STANDBY;
        }
        return NONE;
    }

    private int tellStatus(int wanted) {
        if (wanted != address) {
            return NONE;
        }
        int status = 256 * state + 128 * asNumber(locked) + notes;
        notes = 0;
        return status;
    }

    private int switchLines(int argument) {
        if (!link.change(argument / 4, argument % 4)) {
            note(NOTE_SWITCH);
        }
        return 4 * link.speed() + link.lines();
    }

    private int movePoint(int argument) {
        link.look(argument % POINTS);
        return asNumber(link.isInWindow(heat));
    }

    private int expect(int blocks) {
        stream.expect(blocks);
        return blocks;
    }

    private int beginStream(int kind, int first, boolean single) {
        if (!memory.has(first)) {
            return refuse(NOTE_BLOCK);
        }
        stream.begin(first, single);
        state = kind;
        if (kind == TAKING) {
            well = 0;
        }
        return 0;
    }

    private int stop() {
        int waiting = queue.size();
        state = waiting > 0 ? WRITING : CHOSEN;
        return waiting;
    }

    private int eraseFrom(int first) {
        if (!memory.has(first)) {
            return refuse(NOTE_BLOCK);
        }
        eraser.beginFrom(first);
        return 0;
    }

    private int eraseTo(int last) {
        if (!memory.has(last)) {
            eraser.forget();
            return refuse(NOTE_BLOCK);
        }
        if (!eraser.continueTo(last)) {
            eraser.forget();
            return refuse(NOTE_ERASE);
        }
        return 0;
    }

    private int erase() {
        if (!eraser.isReady()) {
            return refuse(NOTE_ERASE);
        }
        return beginErasing(memory.groupOf(eraser.from()), memory.groupOf(eraser.to()));
    }

    private int beginErasing(int firstGroup, int lastGroup) {
        eraser.begin(firstGroup, lastGroup);
        state = WRITING;
        return eraser.groupsLeft();
    }

    private int changeLock(int how) {
        switch (how) {
            case 0: return unlock();
            case 1: return setSecret(false);
            case 2: return clearSecret();
            case 4: return lock();
            case 5: return setSecret(true);
            case 8: return force();
            default: return refuse(NOTE_LOCK);
        }
    }

    private boolean textIsSecret() {
        return secret.length() > 0 && text.length() == secret.length() && text.startsWith(secret);
    }

    private int unlock() {
        if (!locked || !textIsSecret()) {
            return refuse(NOTE_LOCK);
        }
        locked = false;
        return 1;
    }

    /** Without a WORD the old one is as if it were empty, so one rule serves the first WORD and the next. */
    private int setSecret(boolean lockThen) {
        int more = text.length() - secret.length();
        if (locked || isOutside(more, 1, MAX_WORD) || !text.startsWith(secret)) {
            return refuse(NOTE_LOCK);
        }
        secret.becomeTail(text, secret.length());
        locked = lockThen;
        return 1;
    }

    private int clearSecret() {
        if (locked || !textIsSecret()) {
            return refuse(NOTE_LOCK);
        }
        secret.empty();
        return 1;
    }

    private int lock() {
        if (locked || !textIsSecret()) {
            return refuse(NOTE_LOCK);
        }
        locked = true;
        return 1;
    }

    private int force() {
        if (!locked) {
            return refuse(NOTE_LOCK);
        }
        secret.empty();
        locked = false;
        return beginErasing(0, memory.groupOf(memory.size() - 1));
    }

    /** What the CARD does in one TICK. */
    private void work() {
        if (state != TAKING && state != WRITING) {
            return;
        }
        if (queue.size() > 0) {
            writeFurther();
        } else if (eraser.groupsLeft() > 0) {
            eraseFurther();
        }
        if (state == WRITING && queue.size() == 0 && eraser.groupsLeft() == 0) {
            state = CHOSEN;
        }
    }

    private void writeFurther() {
        queue.tickFirst();
        if (queue.tellOf(0, 2) < link.ticksOfBlock()) {
            return;
        }
        memory.put(queue.tellOf(0, 0), queue.tellOf(0, 1));
        well++;
        queue.dropFirst();
    }

    private void eraseFurther() {
        int group = eraser.group();
        if (eraser.tickGroup()) {
            memory.eraseGroup(group);
        }
    }

    /** The BLOCKS, their GROUPS, and the order in which they were written. */
    private static final class Memory {
        private final int[] contents = new int[MAX_BLOCKS];
        private final boolean[] torn = new boolean[MAX_BLOCKS];
        private final int[] written = new int[MAX_BLOCKS];
        private int writtenCount;
        private int size;
        private int groupSize;

        void clear(int blocks, int blocksOfGroup) {
            size = Math.max(0, Math.min(blocks, MAX_BLOCKS));
            groupSize = Math.max(1, blocksOfGroup);
            writtenCount = 0;
            for (int i = 0; i < MAX_BLOCKS; i++) {
                contents[i] = EMPTY;
                torn[i] = false;
            }
        }

        int size() {
            return size;
        }

        int groupSize() {
            return groupSize;
        }

        boolean has(int place) {
            return place >= 0 && place < size;
        }

        int groupOf(int place) {
            return groupSize > 0 ? place / groupSize : 0;
        }

        int contentOf(int place) {
            return has(place) ? contents[place] : EMPTY;
        }

        boolean isTorn(int place) {
            return has(place) && torn[place];
        }

        int writtenAt(int i) {
            return i >= 0 && i < writtenCount && i < MAX_BLOCKS ? written[i] : NONE;
        }

        void put(int place, int content) {
            if (!has(place)) {
                return;
            }
            contents[place] = content;
            torn[place] = false;
            dropWritten(place, place + 1);
            addWrittenFirst(place);
        }

        void tear(int place) {
            blank(place, 1, true);
        }

        void tearGroup(int group) {
            blank(group * groupSize, groupSize, true);
        }

        void eraseGroup(int group) {
            blank(group * groupSize, groupSize, false);
        }

        int tornBlocks() {
            int found = 0;
            for (int i = 0; i < size; i++) {
                found += asNumber(isTorn(i));
            }
            return found;
        }

        int filledBlocks() {
            int found = 0;
            for (int i = 0; i < size; i++) {
                found += asNumber(contentOf(i) != EMPTY);
            }
            return found;
        }

        private void blank(int first, int length, boolean leftTorn) {
            int end = Math.min(first + length, size);
            for (int i = Math.max(0, first); i < end; i++) {
                contents[i] = EMPTY;
                torn[i] = leftTorn;
            }
            dropWritten(first, end);
        }

        private void dropWritten(int first, int end) {
            int kept = 0;
            for (int i = 0; i < writtenCount && i < MAX_BLOCKS; i++) {
                if (written[i] < first || written[i] >= end) {
                    written[kept] = written[i];
                    kept++;
                }
            }
            writtenCount = kept;
        }

        private void addWrittenFirst(int place) {
            if (writtenCount >= MAX_BLOCKS) {
                return;
            }
            for (int i = writtenCount; i > 0; i--) {
                written[i] = written[i - 1];
            }
            written[0] = place;
            writtenCount++;
        }
    }

    /** A row of letters with a limit: THE TEXT, and the WORD. */
    private static final class Letters {
        private final int[] signs;
        private int length;

        Letters(int limit) {
            signs = new int[Math.max(0, limit)];
        }

        int length() {
            return length;
        }

        void empty() {
            length = 0;
        }

        boolean append(int sign) {
            if (length < 0 || length >= signs.length) {
                return false;
            }
            signs[length] = sign;
            length++;
            return true;
        }

        int at(int i) {
            return i >= 0 && i < length && i < signs.length ? signs[i] : NONE;
        }

        boolean startsWith(Letters head) {
            if (head.length > length) {
                return false;
            }
            for (int i = 0; i < head.length; i++) {
                if (at(i) != head.at(i)) {
                    return false;
                }
            }
            return true;
        }

        void becomeTail(Letters whole, int start) {
            empty();
            for (int i = start; i < whole.length; i++) {
                append(whole.at(i));
            }
        }
    }

    /** What is LATER: taken, and not written yet. */
    private static final class Queue {
        private final int[] places = new int[MAX_LATER];
        private final int[] contents = new int[MAX_LATER];
        private int size;
        // only the first is ever being written, so one number holds the TICKS of all
        private int ticksOfFirst;

        void clear() {
            size = 0;
            ticksOfFirst = 0;
        }

        int size() {
            return size;
        }

        boolean isFull() {
            return size >= MAX_LATER;
        }

        void append(int place, int content) {
            if (size < 0 || size >= MAX_LATER) {
                return;
            }
            places[size] = place;
            contents[size] = content;
            size++;
        }

        int tellOf(int i, int what) {
            if (i < 0 || i >= size || i >= MAX_LATER) {
                return NONE;
            }
            if (what == 0) {
                return places[i];
            }
            if (what == 1) {
                return contents[i];
            }
            return i == 0 ? ticksOfFirst : 0;
        }

        boolean firstHasBegun() {
            return size > 0 && ticksOfFirst > 0;
        }

        void tickFirst() {
            ticksOfFirst++;
        }

        void dropFirst() {
            for (int i = 1; i < size && i < MAX_LATER; i++) {
                places[i - 1] = places[i];
                contents[i - 1] = contents[i];
            }
            size = Math.max(0, size - 1);
            ticksOfFirst = 0;
        }
    }

    /** FROM and TO as they were begun, and the GROUPS to be erased. */
    private static final class Eraser {
        private static final int NOTHING = 0, HAS_FROM = 1, HAS_TO = 2, TICKS_OF_GROUP = 2;
        private int begun;
        private int from;
        private int to;
        private int lowest;
        private int left;
        private int ticksOfLowest;

        void clear() {
            forget();
            lowest = 0;
            left = 0;
            ticksOfLowest = 0;
        }

        void forget() {
            begun = NOTHING;
            from = 0;
            to = 0;
        }

        boolean isBrokenOffBy(int command) {
            if (begun == NOTHING || command == STATUS) {
                return false;
            }
            boolean goesOn = begun == HAS_FROM ? command == TO : command == ERASE;
            return !goesOn;
        }

        void beginFrom(int first) {
            begun = HAS_FROM;
            from = first;
        }

        boolean continueTo(int last) {
            if (begun != HAS_FROM || last < from) {
                return false;
            }
            begun = HAS_TO;
            to = last;
            return true;
        }

        boolean isReady() {
            return begun == HAS_TO;
        }

        int from() {
            return from;
        }

        int to() {
            return to;
        }

        void begin(int firstGroup, int lastGroup) {
            forget();
            lowest = firstGroup;
            left = lastGroup - firstGroup + 1;
            ticksOfLowest = 0;
        }

        int groupsLeft() {
            return left;
        }

        int group() {
            return lowest;
        }

        boolean groupHasBegun() {
            return left > 0 && ticksOfLowest > 0;
        }

        /** One TICK for the lowest GROUP: whether that was its last. */
        boolean tickGroup() {
            ticksOfLowest++;
            if (ticksOfLowest < TICKS_OF_GROUP) {
                return false;
            }
            lowest++;
            left--;
            ticksOfLowest = 0;
            return true;
        }
    }

    /** The stream that is SENDING or TAKING, and the COUNT for the next one. */
    private static final class Stream {
        private int expected;
        private int next;
        private int left;
        private boolean counted;
        private boolean wrong;

        void clear() {
            expected = 0;
            next = 0;
            left = 0;
            counted = false;
            wrong = false;
        }

        void expect(int blocks) {
            expected = blocks;
        }

        void begin(int first, boolean single) {
            next = first;
            left = single ? 1 : expected;
            // a COUNT of 0 is as many as may be, as if there were none
            counted = left > 0;
            wrong = false;
            expected = 0;
        }

        int next() {
            return next;
        }

        void advance() {
            next++;
            left--;
        }

        boolean isCounted() {
            return counted;
        }

        int left() {
            return left;
        }

        boolean isComplete() {
            return counted && left <= 0;
        }

        boolean isWrong() {
            return wrong;
        }

        void spoil() {
            wrong = true;
        }
    }

    /** LINES, SPEED, and the POINT at which it is looked. */
    private static final class Link {
        private int lines;
        private int speed;
        private int point;

        void clear() {
            lines = 0;
            speed = 0;
            point = 0;
        }

        int lines() {
            return lines;
        }

        int speed() {
            return speed;
        }

        int point() {
            return point;
        }

        boolean change(int newSpeed, int newLines) {
            if (newSpeed > 3 || newLines > 2 || newLines == 0 && newSpeed > 1) {
                return false;
            }
            speed = newSpeed;
            lines = newLines;
            return true;
        }

        void look(int newPoint) {
            point = newPoint;
        }

        int ticksOfBlock() {
            return 4 >> lines;
        }

        boolean isInWindow(int heat) {
            int middle = (3 + 5 * speed + heat) % POINTS;
            int behind = Math.floorMod(point - middle, POINTS);
            int away = Math.min(behind, POINTS - behind);
            return away <= 7 - 2 * speed;
        }
    }
}
