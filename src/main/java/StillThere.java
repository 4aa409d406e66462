/**
 * Two ends that tell each other their state in letters, and so find out whether the other one is
 * still there. What each call promises is said in the document; README.md tells how to use it.
 */
public final class StillThere {
    public static final int UNKNOWN = -1, OUTSIDE = -2, STATE = -3, FULL = -4, NONE = -9;

    private static final int DOWN = 0, COMING = 1, UP = 2;
    private static final int SLOW = 9;
    private static final int MOST_TX_RX = 9, MOST_MULT = 5;
    private static final int MOST_TEXT = 70, HEAD = 7;
    private static final int MOST_PASSED = 30, MOST_AHEAD = 99, MOST_DRAWN = 99;
    private static final int MOST_ACTS = 14, MOST_SEEN = 6, MOST_DOINGS = 4, SLOTS = 2;
    private static final int MOST_ENDURED = 5, ENDURED_TICKS = 60;
    private static final int SHARED = 4, ORDERS = 24, SHARE_TICKS = 60;
    private static final int MOST_LUCK = 6, TENTHS = 10, LUCK_TICKS = 40;
    private static final int LAST_OF_END = 13, LAST_KNOWN = 4, LAST_OF_WAY = 1;
    private static final long DRAW_TIMES = 6364136223846793005L, DRAW_PLUS = 1442695040888963407L;

    private final Text text;
    private final World now;
    // All that is asked ahead is played in this one, so that no call has to make a world.
    private final World tried;
    // How all was ahead of each act: to undo one is to go back there.
    private final World[] beforeActs;
    private int actCount;
    private final World[] slots;
    private final boolean[] isKept;
    private final Sights sights;
    private long theSeed;

    public StillThere() {
        text = new Text();
        now = new World();
        tried = new World();
        beforeActs = new World[MOST_ACTS];
        for (int i = 0; i < MOST_ACTS; i++) {
            beforeActs[i] = new World();
        }
        slots = new World[SLOTS];
        for (int i = 0; i < SLOTS; i++) {
            slots[i] = new World();
        }
        isKept = new boolean[SLOTS];
        sights = new Sights();
    }

    // ---- the link

    public int write(int letter) {
        if (letter < 0 || letter > 255) {
            return OUTSIDE;
        }
        if (text.length >= MOST_TEXT) {
            return FULL;
        }
        text.add(letter);
        return text.length;
    }

    public int wipe() {
        int was = text.length;
        text.length = 0;
        return was;
    }

    public int fault() {
        return text.faultPlace();
    }

    public int link() {
        if (text.faultPlace() != NONE) {
            return STATE;
        }
        text.layOut(now);
        actCount = 0;
        for (int i = 0; i < SLOTS; i++) {
            isKept[i] = false;
        }
        return now.clock;
    }

    public int end(int end, int what) {
        if (!isZeroOrOne(end)) {
            return UNKNOWN;
        }
        if (what < 0 || what > LAST_OF_END) {
            return OUTSIDE;
        }
        if (what == 12) {
            return noticedBy(end);
        }
        if (what == 13) {
            return enduredBy(end);
        }
        return now.endOf(end).numberOf(what);
    }

    public int known(int end, int what) {
        if (!isZeroOrOne(end)) {
            return UNKNOWN;
        }
        if (what < 0 || what > LAST_KNOWN) {
            return OUTSIDE;
        }
        return now.endOf(end).knows.numberOf(what);
    }

    public int way(int way, int what) {
        if (!isZeroOrOne(way)) {
            return UNKNOWN;
        }
        if (what < 0 || what > LAST_OF_WAY) {
            return OUTSIDE;
        }
        Way asked = now.wayOf(way);
        return oneIf(what == 0 ? asked.isOpen : asked.hasLetter);
    }

    // ---- acts

    public int pass(int k) {
        if (k < 1 || k > MOST_PASSED) {
            return OUTSIDE;
        }
        remember();
        now.run(k);
        return now.clock;
    }

    public int tell(int end, int what, int v) {
        if (!isZeroOrOne(end)) {
            return UNKNOWN;
        }
        if (what < 0 || what > 2 || v < 1 || v > (what == 2 ? MOST_MULT : MOST_TX_RX)) {
            return OUTSIDE;
        }
        remember();
        End told = now.endOf(end);
        int was = told.numberOf(what);
        told.takeSetting(what, v);
        return was;
    }

    public int demand(int end) {
        if (!isZeroOrOne(end)) {
            return UNKNOWN;
        }
        remember();
        End turned = now.endOf(end);
        turned.turnDemand();
        return oneIf(turned.wantsDemand);
    }

    public int turn(int way) {
        if (!isZeroOrOne(way)) {
            return UNKNOWN;
        }
        remember();
        Way turned = now.wayOf(way);
        turned.turnOver();
        return oneIf(turned.isOpen);
    }

    public int poll(int end) {
        if (!isZeroOrOne(end)) {
            return UNKNOWN;
        }
        End asked = now.endOf(end);
        if (!asked.canBePolled()) {
            return STATE;
        }
        remember();
        asked.startPoll();
        return asked.limit();
    }

    public int undo() {
        if (actCount < 1 || actCount > MOST_ACTS) {
            return STATE;
        }
        actCount--;
        now.copyFrom(beforeActs[actCount]);
        return actCount;
    }

    // ---- asked

    public int ahead(int k, int what) {
        if (k < 0 || k > MOST_AHEAD || what < 0 || what > 3) {
            return OUTSIDE;
        }
        tried.copyFrom(now);
        tried.run(k);
        switch (what) {
            case 0:
                return tried.zero.mood;
            case 1:
                return tried.one.mood;
            case 2:
                return tried.sent;
            default:
                return tried.uptime;
        }
    }

    public int letters(int k) {
        if (k < 0 || k > MOST_AHEAD) {
            return OUTSIDE;
        }
        tried.copyFrom(now);
        tried.run(k);
        return tried.sent - now.sent;
    }

    public int judge(int n, long row) {
        if (n < 1 || n > MOST_DOINGS || row < 0 || withoutLast(row, n) != 0) {
            return OUTSIDE;
        }
        tried.copyFrom(now);
        for (int i = 0; i < n; i++) {
            int doing = (int) (withoutLast(row, n - 1 - i) % 1000);
            if (!canBe(doing)) {
                return i;
            }
        }
        return NONE;
    }

    // ---- seen

    public int see(int k, int end, int s) {
        if (!isZeroOrOne(end)) {
            return UNKNOWN;
        }
        if (k < 0 || k > MOST_AHEAD || s < DOWN || s > UP) {
            return OUTSIDE;
        }
        if (sights.size >= MOST_SEEN) {
            return FULL;
        }
        sights.add(k, end, s);
        return sights.size;
    }

    public int unsee() {
        int was = sights.size;
        sights.size = 0;
        return was;
    }

    public int which() {
        int fitting = 0;
        for (int rx = 1; rx <= MOST_TX_RX; rx++) {
            tried.copyFrom(now);
            tried.zero.rx = rx;
            tried.zero.usedRx = rx;
            if (sights.holdIn(tried)) {
                fitting |= 1 << rx;
            }
        }
        return fitting;
    }

    // ---- shares, chances

    public int share(int setting, boolean upper) {
        if (setting < 0 || setting >= SHARED) {
            return UNKNOWN;
        }
        int itself = 1 << setting;
        int fewer = 0;
        for (int come = 0; come < 1 << SHARED; come++) {
            if ((come & itself) == 0) {
                fewer += ordersBehind(come) * (sentWith(come) - sentWith(come | itself));
            }
        }
        return fraction(fewer, ORDERS, upper);
    }

    public int luck(int r, int x, boolean upper) {
        if (r < 0 || r > MOST_LUCK || x < 0 || x > TENTHS) {
            return OUTSIDE;
        }
        int above = 0;
        for (int lost = 0; lost < 1 << r; lost++) {
            int weight = weightOf(lost, r, x);
            if (weight > 0 && areUpWithLost(lost)) {
                above += weight;
            }
        }
        return fraction(above, power(TENTHS, r), upper);
    }

    public long seed(long v) {
        long was = theSeed;
        theSeed = v;
        return was;
    }

    public int drawn(int m) {
        if (m < 1 || m > MOST_DRAWN) {
            return OUTSIDE;
        }
        tried.copyFrom(now);
        for (int i = 0; i < m; i++) {
            theSeed = theSeed * DRAW_TIMES + DRAW_PLUS;
            int v = (int) (theSeed >>> 33);
            if (v % 16 == 0) {
                tried.wayOf(v / 16 % 2).turnOver();
            }
            tried.tick();
        }
        return tried.uptime - now.uptime;
    }

    // ---- slots

    public int keep(int slot) {
        if (slot < 0 || slot >= SLOTS) {
            return UNKNOWN;
        }
        slots[slot].copyFrom(now);
        isKept[slot] = true;
        return now.clock;
    }

    public int again(int slot) {
        if (slot < 0 || slot >= SLOTS) {
            return UNKNOWN;
        }
        if (!isKept[slot]) {
            return STATE;
        }
        now.copyFrom(slots[slot]);
        actCount = 0;
        return now.clock;
    }

    public int count(int what) {
        switch (what) {
            case 0:
                return text.length;
            case 1:
                return now.clock;
            case 2:
                return now.sent;
            case 3:
                return now.uptime;
            case 4:
                return actCount;
            case 5:
                return sights.size;
            default:
                return OUTSIDE;
        }
    }

    // ---- what the calls are made of

    private static boolean isZeroOrOne(int number) {
        return number == 0 || number == 1;
    }

    private static int oneIf(boolean so) {
        return so ? 1 : 0;
    }

    /** Called ahead of an act, when it is sure that it is not refused. */
    private void remember() {
        if (actCount >= MOST_ACTS) {
            forgetFirstAct();
        }
        beforeActs[actCount].copyFrom(now);
        actCount++;
    }

    private void forgetFirstAct() {
        World free = beforeActs[0];
        for (int i = 1; i < MOST_ACTS; i++) {
            beforeActs[i - 1] = beforeActs[i];
        }
        beforeActs[MOST_ACTS - 1] = free;
        actCount = MOST_ACTS - 1;
    }

    private int noticedBy(int end) {
        tried.copyFrom(now);
        tried.there.isOpen = false;
        tried.back.isOpen = false;
        End noticing = tried.endOf(end);
        for (int k = 0; k <= MOST_AHEAD; k++) {
            if (noticing.mood == DOWN) {
                return k;
            }
            tried.tick();
        }
        return NONE;
    }

    private int enduredBy(int end) {
        if (now.endOf(end).mood == DOWN || !endures(end, 0)) {
            return NONE;
        }
        // Losing more may harm less (a lost letter can be the one that tells DOWN), so each number is tried.
        for (int r = MOST_ENDURED; r > 0; r--) {
            if (endures(end, r)) {
                return r;
            }
        }
        return 0;
    }

    private boolean endures(int end, int losses) {
        tried.copyFrom(now);
        tried.wayTo(end).lossesToCome = losses;
        End enduring = tried.endOf(end);
        for (int k = 1; k <= ENDURED_TICKS; k++) {
            tried.tick();
            if (enduring.mood == DOWN) {
                return false;
            }
        }
        return true;
    }

    /** The row without its last doings, of three figures each. */
    private static long withoutLast(long row, int doings) {
        long rest = row;
        for (int i = 0; i < doings; i++) {
            rest /= 1000;
        }
        return rest;
    }

    /** Does the doing in the tried world, or asks what it asks there. */
    private boolean canBe(int doing) {
        int kind = doing / 100;
        int middle = doing / 10 % 10;
        int last = doing % 10;
        if (kind == 1) {
            int ticks = doing % 100;
            if (ticks < 1 || ticks > MOST_PASSED) {
                return false;
            }
            tried.run(ticks);
            return true;
        }
        if (kind >= 2 && kind <= 4) {
            return middle == 0 && isZeroOrOne(last) && canBeDone(kind, last);
        }
        if (kind >= 5 && kind <= 7) {
            return isZeroOrOne(middle) && isSo(kind, tried.endOf(middle), last);
        }
        return false;
    }

    private boolean canBeDone(int kind, int place) {
        if (kind == 2) {
            tried.endOf(place).turnDemand();
            return true;
        }
        if (kind == 3) {
            tried.wayOf(place).turnOver();
            return true;
        }
        End asked = tried.endOf(place);
        if (!asked.canBePolled()) {
            return false;
        }
        asked.startPoll();
        return true;
    }

    private static boolean isSo(int kind, End asked, int v) {
        switch (kind) {
            case 5:
                return asked.mood == v;
            case 6:
                return oneIf(asked.polls) == v;
            default:
                return asked.pace() == v;
        }
    }

    /** In how many orders just these settings have come when one that is not among them comes next. */
    private static int ordersBehind(int come) {
        int size = Integer.bitCount(come);
        return size == 0 || size == SHARED - 1 ? 6 : 2;
    }

    private int sentWith(int come) {
        tried.copyFrom(now);
        tried.zero.leaveOnly((come & 1) != 0, (come & 2) != 0);
        tried.one.leaveOnly((come & 4) != 0, (come & 8) != 0);
        tried.run(SHARE_TICKS);
        return tried.sent - now.sent;
    }

    /** How often, of 10 to the r times, just these of r letters are lost. */
    private static int weightOf(int lost, int r, int x) {
        int losses = Integer.bitCount(lost);
        return power(x, losses) * power(TENTHS - x, r - losses);
    }

    private static int power(int base, int times) {
        int product = 1;
        for (int i = 0; i < times; i++) {
            product *= base;
        }
        return product;
    }

    private boolean areUpWithLost(int lost) {
        tried.copyFrom(now);
        tried.lostWhenSent = lost;
        tried.run(LUCK_TICKS);
        return tried.areBothUp();
    }

    private static int fraction(int above, int below, boolean upper) {
        int divisor = greatestDivisor(Math.abs(above), below);
        if (divisor < 1) {
            return NONE;
        }
        return (upper ? above : below) / divisor;
    }

    private static int greatestDivisor(int a, int b) {
        int greater = a;
        int lesser = b;
        // Each second round halves a number at least: 64 rounds are more than any two ints need.
        for (int i = 0; i < 64 && lesser != 0; i++) {
            int rest = greater % lesser;
            greater = lesser;
            lesser = rest;
        }
        return greater;
    }

    /** What an end tells of itself: in a letter, and then as what the other end knows of it. */
    private static final class Tale {
        int mood, tx, rx, mult;
        boolean demand;

        void reset() {
            mood = DOWN;
            tx = 1;
            rx = 1;
            mult = 1;
            demand = false;
        }

        void copyFrom(Tale other) {
            mood = other.mood;
            tx = other.tx;
            rx = other.rx;
            mult = other.mult;
            demand = other.demand;
        }

        void describe(End end) {
            mood = end.mood;
            tx = end.tx;
            rx = end.rx;
            mult = end.mult;
            demand = end.wantsDemand;
        }

        int numberOf(int what) {
            switch (what) {
                case 0:
                    return mood;
                case 1:
                    return tx;
                case 2:
                    return rx;
                case 3:
                    return mult;
                default:
                    return oneIf(demand);
            }
        }
    }

    private static final class End {
        int tx, rx, mult, usedTx, usedRx, mood, silence, next;
        boolean polls, wantsDemand, owes;
        final Tale knows = new Tale();

        void reset() {
            tx = 1;
            rx = 1;
            mult = 1;
            usedTx = 1;
            usedRx = 1;
            mood = DOWN;
            silence = 0;
            next = 0;
            polls = false;
            wantsDemand = false;
            owes = false;
            knows.reset();
        }

        void copyFrom(End other) {
            tx = other.tx;
            rx = other.rx;
            mult = other.mult;
            usedTx = other.usedTx;
            usedRx = other.usedRx;
            mood = other.mood;
            silence = other.silence;
            next = other.next;
            polls = other.polls;
            wantsDemand = other.wantsDemand;
            owes = other.owes;
            knows.copyFrom(other.knows);
        }

        int numberOf(int what) {
            switch (what) {
                case 0:
                    return tx;
                case 1:
                    return rx;
                case 2:
                    return mult;
                case 3:
                    return usedTx;
                case 4:
                    return usedRx;
                case 5:
                    return mood;
                case 6:
                    return oneIf(polls);
                case 7:
                    return oneIf(wantsDemand);
                case 8:
                    return silence;
                case 9:
                    return next;
                case 10:
                    return pace();
                default:
                    return limit();
            }
        }

        boolean isBothUp() {
            return mood == UP && knows.mood == UP;
        }

        int pace() {
            return mood == UP ? Math.max(usedTx, knows.rx) : SLOW;
        }

        int limit() {
            int longest = Math.max(usedRx, knows.tx);
            return knows.mult * (isBothUp() ? longest : Math.max(longest, SLOW));
        }

        boolean isStill() {
            return knows.demand && isBothUp() && !polls;
        }

        boolean trusts() {
            return wantsDemand && isBothUp() && !polls;
        }

        void endPoll() {
            polls = false;
            usedTx = tx;
            usedRx = rx;
        }

        void fall() {
            mood = DOWN;
            endPoll();
        }

        void listen(Way from) {
            if (!from.takeOff()) {
                silence++;
                return;
            }
            silence = 0;
            knows.copyFrom(from.tale);
            if (mood == UP && knows.mood == DOWN) {
                fall();
            } else {
                mood = moodByWhatIsKnown();
            }
            if (from.isPoll) {
                owes = true;
            }
            if (from.isAnswer && polls) {
                endPoll();
            }
        }

        /** Where it rises or stays; that an UP end falls when it hears DOWN is not told here. */
        private int moodByWhatIsKnown() {
            if (knows.mood == DOWN) {
                return COMING;
            }
            return knows.mood == COMING || mood == COMING ? UP : mood;
        }

        void fallIfSilent() {
            if (mood != DOWN && !trusts() && silence >= limit()) {
                fall();
                knows.mood = DOWN;
            }
        }

        void takeSetting(int what, int v) {
            if (what == 0) {
                tx = v;
                usedTx = mood == UP ? Math.min(usedTx, v) : v;
            } else if (what == 1) {
                rx = v;
                usedRx = mood == UP ? Math.max(usedRx, v) : v;
            } else {
                mult = v;
            }
            if (what != 2 && mood == UP) {
                polls = true;
            }
        }

        void turnDemand() {
            wantsDemand = !wantsDemand;
        }

        boolean canBePolled() {
            return mood == UP && !polls;
        }

        void startPoll() {
            polls = true;
            silence = 0;
            next = 0;
        }

        /** TX and RX that are not left become 1, without a poll. */
        void leaveOnly(boolean leavesTx, boolean leavesRx) {
            if (!leavesTx) {
                tx = 1;
                usedTx = 1;
            }
            if (!leavesRx) {
                rx = 1;
                usedRx = 1;
            }
        }
    }

    private static final class Way {
        boolean isOpen, hasLetter, isPoll, isAnswer, isLost;
        int lossesToCome;
        final Tale tale = new Tale();

        void reset() {
            isOpen = true;
            hasLetter = false;
            isPoll = false;
            isAnswer = false;
            isLost = false;
            lossesToCome = 0;
            tale.reset();
        }

        void copyFrom(Way other) {
            isOpen = other.isOpen;
            hasLetter = other.hasLetter;
            isPoll = other.isPoll;
            isAnswer = other.isAnswer;
            isLost = other.isLost;
            lossesToCome = other.lossesToCome;
            tale.copyFrom(other.tale);
        }

        void turnOver() {
            isOpen = !isOpen;
        }

        void put(End from, boolean lost) {
            hasLetter = true;
            isPoll = from.polls;
            isAnswer = from.owes;
            isLost = lost;
            tale.describe(from);
        }

        /** True if a letter was taken off and is heard. */
        boolean takeOff() {
            if (!hasLetter) {
                return false;
            }
            hasLetter = false;
            if (!isOpen) {
                return false;
            }
            if (lossesToCome > 0) {
                lossesToCome--;
                return false;
            }
            return !isLost;
        }
    }

    private static final class World {
        final End zero = new End(), one = new End();
        final Way there = new Way(), back = new Way();
        int clock, sent, uptime;
        // Bits of the letters to be sent, the next one lowest: those that are lost when luck is asked for.
        int lostWhenSent;

        World() {
            reset();
        }

        void reset() {
            zero.reset();
            one.reset();
            there.reset();
            back.reset();
            clock = 0;
            sent = 0;
            uptime = 0;
            lostWhenSent = 0;
        }

        void copyFrom(World other) {
            zero.copyFrom(other.zero);
            one.copyFrom(other.one);
            there.copyFrom(other.there);
            back.copyFrom(other.back);
            clock = other.clock;
            sent = other.sent;
            uptime = other.uptime;
            lostWhenSent = other.lostWhenSent;
        }

        End endOf(int end) {
            return end == 0 ? zero : one;
        }

        Way wayOf(int way) {
            return way == 0 ? there : back;
        }

        Way wayTo(int end) {
            return end == 0 ? back : there;
        }

        boolean areBothUp() {
            return zero.mood == UP && one.mood == UP;
        }

        void run(int ticks) {
            for (int i = 0; i < ticks; i++) {
                tick();
            }
        }

        void tick() {
            clock++;
            zero.listen(back);
            one.listen(there);
            zero.fallIfSilent();
            one.fallIfSilent();
            sendIfDue(zero, there);
            sendIfDue(one, back);
            if (areBothUp()) {
                uptime++;
            }
        }

        private void sendIfDue(End end, Way to) {
            end.next = Math.max(end.next - 1, 0);
            if (end.owes || end.next == 0 && !end.isStill()) {
                to.put(end, (lostWhenSent & 1) != 0);
                lostWhenSent >>>= 1;
                end.owes = false;
                end.next = end.pace();
                sent++;
            }
        }
    }

    private static final class Text {
        final int[] signs = new int[MOST_TEXT];
        int length;

        void add(int letter) {
            if (length >= 0 && length < MOST_TEXT) {
                signs[length] = letter;
                length++;
            }
        }

        int faultPlace() {
            boolean isEventOpen = false;
            for (int i = 0; i < length && i < MOST_TEXT; i++) {
                int sign = signs[i];
                if (i < HEAD ? !fitsHead(i, sign) : !fitsEvent(isEventOpen, sign)) {
                    return i;
                }
                isEventOpen = i >= HEAD && (sign == 'd' || sign == 'w');
            }
            return length < HEAD || isEventOpen ? length : NONE;
        }

        private static boolean fitsHead(int place, int sign) {
            if (place == 0) {
                return sign == 'B';
            }
            int most = place % 3 == 0 ? MOST_MULT : MOST_TX_RX;
            return sign >= '1' && sign <= '0' + most;
        }

        private static boolean fitsEvent(boolean isEventOpen, int sign) {
            if (isEventOpen) {
                return sign == '0' || sign == '1';
            }
            return sign == 'd' || sign == 'w' || sign >= '1' && sign <= '9';
        }

        /** Only for a text without a fault. */
        void layOut(World world) {
            world.reset();
            for (int i = 1; i < HEAD; i++) {
                world.endOf((i - 1) / 3).takeSetting((i - 1) % 3, signs[i] - '0');
            }
            int event = 0;
            for (int i = HEAD; i < length && i < MOST_TEXT; i++) {
                int sign = signs[i];
                if (event == 'd') {
                    world.endOf(sign - '0').turnDemand();
                } else if (event == 'w') {
                    world.wayOf(sign - '0').turnOver();
                } else if (sign != 'd' && sign != 'w') {
                    world.run(sign - '0');
                }
                event = sign == 'd' || sign == 'w' ? sign : 0;
            }
        }
    }

    private static final class Sights {
        final int[] ticks = new int[MOST_SEEN], ends = new int[MOST_SEEN], moods = new int[MOST_SEEN];
        int size;

        void add(int k, int end, int mood) {
            if (size >= 0 && size < MOST_SEEN) {
                ticks[size] = k;
                ends[size] = end;
                moods[size] = mood;
                size++;
            }
        }

        /** Lets the world run on; true if all that was seen is so on the way. */
        boolean holdIn(World world) {
            int last = lastTick();
            for (int k = 0; k <= last && k <= MOST_AHEAD; k++) {
                if (!holdAt(k, world)) {
                    return false;
                }
                world.tick();
            }
            return true;
        }

        private int lastTick() {
            int last = -1;
            for (int i = 0; i < size && i < MOST_SEEN; i++) {
                last = Math.max(last, ticks[i]);
            }
            return last;
        }

        private boolean holdAt(int k, World world) {
            for (int i = 0; i < size && i < MOST_SEEN; i++) {
                if (ticks[i] == k && world.endOf(ends[i]).mood != moods[i]) {
                    return false;
                }
            }
            return true;
        }
    }
}
