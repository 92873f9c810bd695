/** Cards brought to where a test begins. */
final class Cards {
    static final int BAD = -1, NO = -2, FULL = -3, NONE = -4;
    static final int IDLE = 0, READY = 1, NAMED = 2, STANDBY = 3;
    static final int CHOSEN = 4, SENDING = 5, TAKING = 6, WRITING = 7;

    private Cards() {
    }

    /** Power on, woken often enough, named, address 1. */
    static void toStandby(BlockCard x) {
        x.power(1);
        for (int i = 0; i < 10 && x.count(2) == IDLE; i++) {
            x.tell(1, 0);
        }
        x.tell(2, 0);
        x.tell(3, 0);
    }

    static void toChosen(BlockCard x) {
        toStandby(x);
        x.tell(7, 1);
    }

    /** CHOSEN, with POINT in the middle of the WINDOW at HEAT 0, SPEED 0. */
    static BlockCard chosen() {
        BlockCard x = new BlockCard();
        toChosen(x);
        x.tell(21, 3);
        return x;
    }

    static BlockCard chosen(int blocks, int groupSize) {
        BlockCard x = new BlockCard();
        x.make(blocks, groupSize, 0, 5);
        toChosen(x);
        x.tell(21, 3);
        return x;
    }

    static BlockCard inState(int state) {
        BlockCard x = new BlockCard();
        if (state >= STANDBY) {
            toStandby(x);
        } else {
            x.power(1);
        }
        if (state == READY || state == NAMED) {
            x.tell(1, 0);
            x.tell(1, 0);
            x.tell(1, 0);
        }
        if (state == NAMED) {
            x.tell(2, 0);
        }
        if (state >= CHOSEN) {
            x.tell(7, 1);
            x.tell(21, 3);
        }
        if (state == SENDING) {
            x.tell(18, 0);
        }
        if (state == TAKING) {
            x.tell(25, 0);
        }
        if (state == WRITING) {
            x.tell(24, 0);
            give(x, 1);
        }
        return x;
    }

    static int give(BlockCard x, int content) {
        return x.give(content, x.checkOf(content));
    }

    /** One BLOCK taken and written; the card is CHOSEN before and behind it. */
    static void put(BlockCard x, int place, int content) {
        x.tell(24, place);
        give(x, content);
        x.tick(4);
    }

    static void type(BlockCard x, String letters) {
        x.wipe();
        for (int i = 0; i < letters.length(); i++) {
            x.write(letters.charAt(i));
        }
    }

    static String word(BlockCard x) {
        StringBuilder letters = new StringBuilder();
        for (int i = 0; i < x.word(-1); i++) {
            letters.append((char) x.word(i));
        }
        return letters.toString();
    }

    /** All that can be asked without changing anything, as one text. */
    static String whole(BlockCard x) {
        StringBuilder all = new StringBuilder();
        for (int what = 0; what <= 18; what++) {
            all.append(x.count(what)).append(' ');
        }
        for (int place = 0; place < x.count(0); place++) {
            all.append(x.block(place, 0)).append('/').append(x.block(place, 1)).append(' ');
        }
        for (int i = 0; x.latest(i) >= 0; i++) {
            all.append("L").append(x.latest(i)).append(' ');
        }
        for (int i = 0; i < 2; i++) {
            for (int what = 0; what < 3; what++) {
                all.append(x.later(i, what)).append(' ');
            }
        }
        return all.append(word(x)).toString();
    }
}
