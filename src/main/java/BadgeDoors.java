/**
 * Doors opened by badges, as ../shared/DOC.md tells it. The words in capitals are that document's.
 *
 * <p>Every row is made when the object is made and used again, so no call makes an object.
 */
public final class BadgeDoors {
    public static final int NONE = -1, BAD = -2, NO = -3, FULL = -4;

    /** What a look for a refusal answers if there is none; no refusal has this number. */
    private static final int FINE = 0;
    private static final int NO_WAY = -5;
    private static final int FAULT_AT_FIRST_BYTE = -10;

    private static final int AREAS = 6;
    private static final int OUTSIDE = 0;
    private static final int MOST_LEVEL = 3;
    private static final int MOST_DOORS = 8;
    private static final int MOST_BADGES = 8;
    private static final int MOST_TWOS = MOST_DOORS * MOST_BADGES;
    private static final int MOST_NOTES = 20;
    private static final int MOST_WAIT = 99;
    private static final int MOST_BYTES = 150;
    private static final int MOST_STATES = 4;

    private static final int HOURS = 24;
    private static final int FIRST_DAY_HOUR = 8;
    private static final int LAST_DAY_HOUR = 17;

    private static final int BACK = 0, PAIR = 1;
    private static final int HARD = 2;

    private static final int LET = 0, SHUT = 1, BARRED = 2, LOW = 3, TWICE = 4, ALONE = 5;
    private static final int OUTCOMES = 6;

    private static final int DOOR_FACTS = 11, BADGE_FACTS = 6, TWO_FACTS = 3;
    private static final int COUNTS = 12, TOLD = 7;
    /** The count of those that were LET; behind it stand those that were not, by 1 to 5. */
    private static final int FIRST_OUTCOME_COUNT = 5;

    private static final int BADGE_WORD = 0, DOOR_WORD = 1, ASK_WORD = 2, DURESS_WORD = 3;
    private static final int WAIT_WORD = 4, OFF_WORD = 5, ON_WORD = 6, BAR_WORD = 7;
    private static final int WORDS = 8;
    private static final int MOST_NUMBERS = 4;
    private static final int[] NUMBERS_BEHIND = {1, 4, 2, 2, 1, 1, 1, 1};

    private static final long DIGEST_START = 2437L;
    private static final long DIGEST_FACTOR = 31L;

    private House now;
    private final House[] kept;
    private int states;
    private final Text text;
    private final Route route;
    private int timesBad;
    private int timesNo;
    private int timesFull;

    public BadgeDoors() {
        now = new House();
        kept = new House[MOST_STATES];
        for (int i = 0; i < MOST_STATES; i++) {
            kept[i] = new House();
        }
        text = new Text();
        route = new Route();
    }

    // ---- doors and badges

    public int door(int from, int to, int day, int night) {
        int why = now.refusesDoor(from, to, day, night);
        if (why != FINE) {
            return refuse(why);
        }
        keepState();
        return now.doors.add(from, to, day, night);
    }

    public int sets(int d, int what, int v) {
        if (!now.hasDoor(d) || !isSetting(what, v)) {
            return refuse(BAD);
        }
        keepState();
        return now.doors.changeSetting(d, what, v);
    }

    public int locks(int d, int e) {
        if (!now.hasDoor(d) || e == d || (e != NONE && !now.hasDoor(e))) {
            return refuse(BAD);
        }
        keepState();
        return now.doors.changeLock(d, e);
    }

    public int badge(int level) {
        int why = now.refusesBadge(level);
        if (why != FINE) {
            return refuse(why);
        }
        keepState();
        return now.badges.add(level);
    }

    public int levels(int b, int v) {
        if (!now.hasBadge(b) || !isLevel(v)) {
            return refuse(BAD);
        }
        keepState();
        return now.badges.changeLevel(b, v);
    }

    public int bars(int b, int is) {
        int why = now.refusesBar(b, is);
        if (why != FINE) {
            return refuse(why);
        }
        keepState();
        return now.badges.changeBarred(b, is);
    }

    public int online(int d, int is) {
        int why = now.refusesOnline(d, is);
        if (why != FINE) {
            return refuse(why);
        }
        keepState();
        return now.changeOnline(d, is);
    }

    // ---- what happens

    public int asks(int b, int d, int duress) {
        int why = now.refusesAsk(b, d, duress);
        if (why != FINE) {
            return refuse(why);
        }
        keepState();
        return now.ask(b, d, duress);
    }

    public int waits(int n) {
        int why = now.refusesWait(n);
        if (why != FINE) {
            return refuse(why);
        }
        keepState();
        return now.letTimeGoBy(n);
    }

    public int of(int d, int what) {
        if (!now.hasDoor(d) || !isBelow(what, DOOR_FACTS)) {
            return refuse(BAD);
        }
        return now.doorFact(d, what);
    }

    public int about(int b, int what) {
        if (!now.hasBadge(b) || !isBelow(what, BADGE_FACTS)) {
            return refuse(BAD);
        }
        return now.badges.fact(b, what);
    }

    public int note(int d, int i, int what) {
        if (!now.hasDoor(d) || i < 0 || !isFlag(what)) {
            return refuse(BAD);
        }
        return now.doors.noteFact(d, i, what);
    }

    public int inside(int area, int what) {
        if (!isArea(area) || !isFlag(what)) {
            return refuse(BAD);
        }
        int who = now.badges.bitsIn(area);
        return what == 0 ? Integer.bitCount(who) : who;
    }

    public int muster(int area) {
        if (!isArea(area)) {
            return refuse(BAD);
        }
        return now.badges.bitsInBut(area);
    }

    public int way(int b, int a, int c, int i) {
        if (!now.hasBadge(b) || !isArea(a) || !isArea(c) || a == c || i < NONE) {
            return refuse(BAD);
        }
        route.measure(now, b, c);
        return i == NONE ? route.length(a) : route.doorAt(now, b, a, i);
    }

    public int passed(int i, int what) {
        if (i < 0 || !isBelow(what, TWO_FACTS)) {
            return refuse(BAD);
        }
        return now.twos.fact(i, what);
    }

    public int count(int what) {
        if (!isBelow(what, COUNTS)) {
            return refuse(BAD);
        }
        return now.counted(what);
    }

    // ---- texts

    public int type(int c) {
        if (c < 0 || c > 127) {
            return refuse(BAD);
        }
        if (text.length >= MOST_BYTES) {
            return refuse(FULL);
        }
        return text.append(c);
    }

    public int clear() {
        return text.empty();
    }

    public int reads() {
        int fault = text.findFault();
        if (fault != NONE) {
            return FAULT_AT_FIRST_BYTE - fault;
        }
        keepState();
        int done = 0;
        text.restart();
        for (int k = 0; k < MOST_BYTES && text.hasMore() && text.takeOrder(); k++) {
            if (doOrder(text.word, text.numbers)) {
                done++;
            }
        }
        return done;
    }

    public int back() {
        if (states <= 0) {
            return refuse(NO);
        }
        states--;
        House then = kept[states];
        kept[states] = now;
        now = then;
        return states;
    }

    public int told(int what) {
        if (!isBelow(what, TOLD)) {
            return refuse(BAD);
        }
        return toldOf(what);
    }

    public long digest() {
        long h = DIGEST_START;
        for (int what = 0; what < TOLD; what++) {
            h = mix(h, toldOf(what));
        }
        h = mixDoors(h);
        h = mixBadges(h);
        for (int what = 0; what < COUNTS; what++) {
            h = mix(h, now.counted(what));
        }
        return mixTwos(h);
    }

    // ---- refusals and STATES

    private int refuse(int why) {
        switch (why) {
            case BAD:
                timesBad++;
                break;
            case NO:
                timesNo++;
                break;
            default:
                timesFull++;
                break;
        }
        return why;
    }

    private void keepState() {
        if (states >= MOST_STATES) {
            loseOldestState();
        }
        kept[states].copyFrom(now);
        states++;
    }

    /** The lost one's rows go to the end, to be used again. */
    private void loseOldestState() {
        House oldest = kept[0];
        for (int i = 1; i < MOST_STATES; i++) {
            kept[i - 1] = kept[i];
        }
        kept[MOST_STATES - 1] = oldest;
        states = MOST_STATES - 1;
    }

    private int toldOf(int what) {
        switch (what) {
            case 0:
                return timesBad;
            case 1:
                return timesNo;
            case 2:
                return timesFull;
            case 3:
                return text.length;
            case 4:
                return now.doors.many;
            case 5:
                return now.badges.many;
            default:
                return states;
        }
    }

    // ---- ORDERS

    /** False, if the ORDER is passed over. */
    private boolean doOrder(int word, int[] n) {
        switch (word) {
            case BADGE_WORD:
                return orderBadge(n[0]);
            case DOOR_WORD:
                return orderDoor(n[0], n[1], n[2], n[3]);
            case ASK_WORD:
                return orderAsk(n[0], n[1], 0);
            case DURESS_WORD:
                return orderAsk(n[0], n[1], 1);
            case WAIT_WORD:
                return orderWait(n[0]);
            case OFF_WORD:
                return orderOnline(n[0], 0);
            case ON_WORD:
                return orderOnline(n[0], 1);
            default:
                return orderBar(n[0]);
        }
    }

    private boolean orderBadge(int level) {
        boolean fine = now.refusesBadge(level) == FINE;
        if (fine) {
            now.badges.add(level);
        }
        return fine;
    }

    private boolean orderDoor(int from, int to, int day, int night) {
        boolean fine = now.refusesDoor(from, to, day, night) == FINE;
        if (fine) {
            now.doors.add(from, to, day, night);
        }
        return fine;
    }

    private boolean orderAsk(int b, int d, int duress) {
        boolean fine = now.refusesAsk(b, d, duress) == FINE;
        if (fine) {
            now.ask(b, d, duress);
        }
        return fine;
    }

    private boolean orderWait(int n) {
        boolean fine = now.refusesWait(n) == FINE;
        if (fine) {
            now.letTimeGoBy(n);
        }
        return fine;
    }

    private boolean orderOnline(int d, int is) {
        boolean fine = now.refusesOnline(d, is) == FINE;
        if (fine) {
            now.changeOnline(d, is);
        }
        return fine;
    }

    private boolean orderBar(int b) {
        boolean fine = now.refusesBar(b, 1) == FINE;
        if (fine) {
            now.badges.changeBarred(b, 1);
        }
        return fine;
    }

    // ---- the digest's parts

    private static long mix(long h, int v) {
        return DIGEST_FACTOR * h + v;
    }

    private long mixDoors(long start) {
        long h = start;
        for (int d = 0; d < now.doors.many; d++) {
            for (int what = 0; what < DOOR_FACTS; what++) {
                h = mix(h, now.doorFact(d, what));
            }
        }
        return h;
    }

    private long mixBadges(long start) {
        long h = start;
        for (int b = 0; b < now.badges.many; b++) {
            for (int what = 0; what < BADGE_FACTS; what++) {
                h = mix(h, now.badges.fact(b, what));
            }
        }
        return h;
    }

    private long mixTwos(long start) {
        long h = start;
        for (int i = 0; i < now.twos.many; i++) {
            for (int what = 0; what < TWO_FACTS; what++) {
                h = mix(h, now.twos.fact(i, what));
            }
        }
        return h;
    }

    // ---- numbers as told

    private static boolean isBelow(int v, int end) {
        return v >= 0 && v < end;
    }

    private static boolean isArea(int v) {
        return isBelow(v, AREAS);
    }

    private static boolean isLevel(int v) {
        return v >= 0 && v <= MOST_LEVEL;
    }

    private static boolean isFlag(int v) {
        return v == 0 || v == 1;
    }

    private static boolean isSetting(int what, int v) {
        return (what == BACK && v >= 0 && v <= HARD) || (what == PAIR && isFlag(v));
    }

    private static void copyRow(int[] source, int[] target, int many) {
        System.arraycopy(source, 0, target, 0, many);
    }

    /** The DOORS with their NOTES and COPIES: a row for each thing told, a place in it for each DOOR. */
    static final class Doors {
        int many;
        final int[] from = new int[MOST_DOORS];
        final int[] to = new int[MOST_DOORS];
        final int[] dayLevel = new int[MOST_DOORS];
        final int[] nightLevel = new int[MOST_DOORS];
        final int[] back = new int[MOST_DOORS];
        final int[] pair = new int[MOST_DOORS];
        final int[] lock = new int[MOST_DOORS];
        final int[] isOnline = new int[MOST_DOORS];
        final int[] openAt = new int[MOST_DOORS];
        final int[] waiting = new int[MOST_DOORS];
        final int[] notes = new int[MOST_DOORS];
        final int[] noteTimes = new int[MOST_DOORS * MOST_NOTES];
        final int[] noteBadges = new int[MOST_DOORS * MOST_NOTES];
        final int[] copyMany = new int[MOST_DOORS];
        final int[] copyBarred = new int[MOST_DOORS * MOST_BADGES];
        final int[] copyLevels = new int[MOST_DOORS * MOST_BADGES];

        void copyFrom(Doors other) {
            many = other.many;
            copyRow(other.from, from, many);
            copyRow(other.to, to, many);
            copyRow(other.dayLevel, dayLevel, many);
            copyRow(other.nightLevel, nightLevel, many);
            copyRow(other.back, back, many);
            copyRow(other.pair, pair, many);
            copyRow(other.lock, lock, many);
            copyRow(other.isOnline, isOnline, many);
            copyRow(other.openAt, openAt, many);
            copyRow(other.waiting, waiting, many);
            copyRow(other.notes, notes, many);
            copyRow(other.noteTimes, noteTimes, many * MOST_NOTES);
            copyRow(other.noteBadges, noteBadges, many * MOST_NOTES);
            copyRow(other.copyMany, copyMany, many);
            copyRow(other.copyBarred, copyBarred, many * MOST_BADGES);
            copyRow(other.copyLevels, copyLevels, many * MOST_BADGES);
        }

        /**
         * All that is told of it is set, as one that was taken back may have left something there;
         * its COPY is, when it goes off.
         */
        int add(int fromArea, int toArea, int day, int night) {
            int d = many;
            if (d >= MOST_DOORS) {
                return NONE;
            }
            from[d] = fromArea;
            to[d] = toArea;
            dayLevel[d] = day;
            nightLevel[d] = night;
            back[d] = 0;
            pair[d] = 0;
            lock[d] = NONE;
            isOnline[d] = 1;
            openAt[d] = NONE;
            waiting[d] = NONE;
            notes[d] = 0;
            many = d + 1;
            return d;
        }

        int changeSetting(int d, int what, int v) {
            int[] row = what == BACK ? back : pair;
            int was = row[d];
            row[d] = v;
            return was;
        }

        int changeLock(int d, int e) {
            int was = lock[d];
            unlock(d);
            if (e != NONE) {
                unlock(e);
                lock[d] = e;
                lock[e] = d;
            }
            return was;
        }

        private void unlock(int d) {
            int other = lock[d];
            if (other != NONE) {
                lock[other] = NONE;
            }
            lock[d] = NONE;
        }

        void takeCopy(int d, Badges badges) {
            int first = d * MOST_BADGES;
            copyMany[d] = badges.many;
            for (int b = 0; b < badges.many; b++) {
                copyBarred[first + b] = badges.barred[b];
                copyLevels[first + b] = badges.level[b];
            }
        }

        boolean isBarredByCopy(int d, int b) {
            return b >= copyMany[d] || copyBarred[d * MOST_BADGES + b] == 1;
        }

        int levelByCopy(int d, int b) {
            return copyLevels[d * MOST_BADGES + b];
        }

        void addNote(int d, int b, int time) {
            int i = notes[d];
            if (i < MOST_NOTES) {
                noteTimes[d * MOST_NOTES + i] = time;
                noteBadges[d * MOST_NOTES + i] = b;
                notes[d] = i + 1;
            }
        }

        int noteFact(int d, int i, int what) {
            if (i >= notes[d]) {
                return NONE;
            }
            int place = d * MOST_NOTES + i;
            return what == 0 ? noteTimes[place] : noteBadges[place];
        }

        boolean anotherWaits(int d, int b) {
            return waiting[d] != NONE && waiting[d] != b;
        }

        /** No other one WAITS there, or b were not ALONE. */
        void startWaiting(int d, int b) {
            waiting[d] = b;
        }

        /** The one that is let with another: none without PAIR, where one may WAIT from before. */
        int endWaiting(int d) {
            if (pair[d] == 0) {
                return NONE;
            }
            int second = waiting[d];
            waiting[d] = NONE;
            return second;
        }

        void endAllWaiting() {
            for (int d = 0; d < many; d++) {
                waiting[d] = NONE;
            }
        }
    }

    /** The BADGES: a row for each thing told, a place in it for each BADGE. */
    static final class Badges {
        int many;
        final int[] level = new int[MOST_BADGES];
        final int[] barred = new int[MOST_BADGES];
        final int[] in = new int[MOST_BADGES];
        final int[] since = new int[MOST_BADGES];
        final int[] alarms = new int[MOST_BADGES];
        final int[] passes = new int[MOST_BADGES];

        void copyFrom(Badges other) {
            many = other.many;
            copyRow(other.level, level, many);
            copyRow(other.barred, barred, many);
            copyRow(other.in, in, many);
            copyRow(other.since, since, many);
            copyRow(other.alarms, alarms, many);
            copyRow(other.passes, passes, many);
        }

        /** Every place is set, as one that was taken back may have left something there. */
        int add(int itsLevel) {
            int b = many;
            if (b >= MOST_BADGES) {
                return NONE;
            }
            level[b] = itsLevel;
            barred[b] = 0;
            in[b] = OUTSIDE;
            since[b] = 0;
            alarms[b] = 0;
            passes[b] = 0;
            many = b + 1;
            return b;
        }

        int changeLevel(int b, int v) {
            int was = level[b];
            level[b] = v;
            return was;
        }

        int changeBarred(int b, int is) {
            int was = barred[b];
            barred[b] = is;
            return was;
        }

        int fact(int b, int what) {
            switch (what) {
                case 0:
                    return level[b];
                case 1:
                    return barred[b];
                case 2:
                    return in[b];
                case 3:
                    return since[b];
                case 4:
                    return alarms[b];
                default:
                    return passes[b];
            }
        }

        int bitsIn(int area) {
            int bits = 0;
            for (int b = 0; b < many; b++) {
                if (in[b] == area) {
                    bits |= 1 << b;
                }
            }
            return bits;
        }

        int bitsInBut(int area) {
            int bits = 0;
            for (int b = 0; b < many; b++) {
                if (in[b] != OUTSIDE && in[b] != area) {
                    bits |= 1 << b;
                }
            }
            return bits;
        }
    }

    /** PASSED: each two of a BADGE and a DOOR, in the order in which they first came. */
    static final class Twos {
        int many;
        /** The two that came i-th: its place in the other row. */
        private final int[] order = new int[MOST_TWOS];
        private final int[] times = new int[MOST_TWOS];

        void copyFrom(Twos other) {
            many = other.many;
            copyRow(other.order, order, many);
            copyRow(other.times, times, MOST_TWOS);
        }

        void add(int b, int d) {
            int two = b * MOST_DOORS + d;
            if (times[two] == 0 && many < MOST_TWOS) {
                order[many] = two;
                many++;
            }
            times[two]++;
        }

        int fact(int i, int what) {
            if (i >= many) {
                return NONE;
            }
            int two = order[i];
            switch (what) {
                case 0:
                    return two / MOST_DOORS;
                case 1:
                    return two % MOST_DOORS;
                default:
                    return times[two];
            }
        }
    }

    /** All that a STATE holds, and what can happen to it. */
    static final class House {
        final Doors doors = new Doors();
        final Badges badges = new Badges();
        final Twos twos = new Twos();
        private final int[] outcomes = new int[OUTCOMES];
        private int time;
        private int flaws;
        private int late;
        private int alarms;

        void copyFrom(House other) {
            doors.copyFrom(other.doors);
            badges.copyFrom(other.badges);
            twos.copyFrom(other.twos);
            copyRow(other.outcomes, outcomes, OUTCOMES);
            time = other.time;
            flaws = other.flaws;
            late = other.late;
            alarms = other.alarms;
        }

        boolean hasDoor(int d) {
            return isBelow(d, doors.many);
        }

        boolean hasBadge(int b) {
            return isBelow(b, badges.many);
        }

        int refusesDoor(int from, int to, int day, int night) {
            if (!isArea(from) || !isArea(to) || from == to || !isLevel(day) || !isLevel(night)) {
                return BAD;
            }
            return doors.many >= MOST_DOORS ? FULL : FINE;
        }

        int refusesBadge(int level) {
            if (!isLevel(level)) {
                return BAD;
            }
            return badges.many >= MOST_BADGES ? FULL : FINE;
        }

        int refusesBar(int b, int is) {
            return hasBadge(b) && isFlag(is) ? FINE : BAD;
        }

        int refusesOnline(int d, int is) {
            if (!hasDoor(d) || !isFlag(is)) {
                return BAD;
            }
            return doors.isOnline[d] == is ? NO : FINE;
        }

        int refusesAsk(int b, int d, int duress) {
            return hasBadge(b) && hasDoor(d) && isFlag(duress) ? FINE : BAD;
        }

        int refusesWait(int n) {
            return n >= 1 && n <= MOST_WAIT ? FINE : BAD;
        }

        private int hour() {
            return time % HOURS;
        }

        int letTimeGoBy(int n) {
            time += n;
            doors.endAllWaiting();
            return hour();
        }

        private boolean isOpen(int d) {
            return doors.openAt[d] == time;
        }

        private int levelNow(int d) {
            int hour = hour();
            boolean isDay = hour >= FIRST_DAY_HOUR && hour <= LAST_DAY_HOUR;
            return isDay ? doors.dayLevel[d] : doors.nightLevel[d];
        }

        int ask(int b, int d, int duress) {
            boolean isOnline = doors.isOnline[d] == 1;
            int outcome = isOnline ? decideOnline(b, d) : decideOffline(b, d);
            if (outcome == ALONE) {
                doors.startWaiting(d, b);
            }
            if (outcome != LET) {
                outcomes[outcome]++;
                return outcome;
            }
            if (duress == 1) {
                raiseAlarm(b);
            }
            if (!isOnline) {
                doors.addNote(d, b, time);
                goThrough(b, d);
                return LET;
            }
            let(b, d);
            int second = doors.endWaiting(d);
            if (second != NONE) {
                let(second, d);
            }
            return LET;
        }

        private void raiseAlarm(int b) {
            alarms++;
            badges.alarms[b]++;
        }

        private void let(int b, int d) {
            move(b, d, time);
            goThrough(b, d);
        }

        private void move(int b, int d, int when) {
            if (doors.back[d] != 0 && badges.in[b] != doors.from[d]) {
                flaws++;
            }
            badges.in[b] = doors.to[d];
            badges.since[b] = when;
        }

        private void goThrough(int b, int d) {
            doors.openAt[d] = time;
            outcomes[LET]++;
            badges.passes[b]++;
            twos.add(b, d);
        }

        private int decideOnline(int b, int d) {
            if (isShut(d)) {
                return SHUT;
            }
            if (doors.to[d] == OUTSIDE) {
                return LET;
            }
            if (badges.barred[b] == 1) {
                return BARRED;
            }
            if (badges.level[b] < levelNow(d)) {
                return LOW;
            }
            if (doors.back[d] == HARD && badges.in[b] != doors.from[d]) {
                return TWICE;
            }
            return doors.pair[d] == 1 && !doors.anotherWaits(d, b) ? ALONE : LET;
        }

        private boolean isShut(int d) {
            int other = doors.lock[d];
            return other != NONE && isOpen(other);
        }

        private int decideOffline(int b, int d) {
            if (isShut(d)) {
                return SHUT;
            }
            if (doors.to[d] == OUTSIDE) {
                return LET;
            }
            if (doors.isBarredByCopy(d, b)) {
                return BARRED;
            }
            return doors.levelByCopy(d, b) < levelNow(d) ? LOW : LET;
        }

        int changeOnline(int d, int is) {
            doors.isOnline[d] = is;
            if (is == 1) {
                return mergeNotes(d);
            }
            doors.takeCopy(d, badges);
            return 0;
        }

        /** TIME never runs back, so the NOTES of a DOOR stand by TIME as they came. */
        private int mergeNotes(int d) {
            int many = Math.min(doors.notes[d], MOST_NOTES);
            for (int i = 0; i < many; i++) {
                int place = d * MOST_NOTES + i;
                mergeNote(doors.noteBadges[place], d, doors.noteTimes[place]);
            }
            doors.notes[d] = 0;
            return many;
        }

        private void mergeNote(int b, int d, int when) {
            if (when >= badges.since[b]) {
                move(b, d, when);
            } else {
                late++;
            }
        }

        /** Whether WAY may go there: by the house's own BARRED and LEVELS alone. */
        boolean couldPass(int b, int d) {
            if (doors.to[d] == OUTSIDE) {
                return true;
            }
            return badges.barred[b] == 0 && badges.level[b] >= levelNow(d);
        }

        int doorFact(int d, int what) {
            switch (what) {
                case 0:
                    return doors.from[d];
                case 1:
                    return doors.to[d];
                case 2:
                    return doors.dayLevel[d];
                case 3:
                    return doors.nightLevel[d];
                case 4:
                    return doors.back[d];
                case 5:
                    return doors.pair[d];
                case 6:
                    return doors.lock[d];
                case 7:
                    return doors.isOnline[d];
                case 8:
                    return isOpen(d) ? 1 : 0;
                case 9:
                    return doors.waiting[d];
                default:
                    return doors.notes[d];
            }
        }

        int counted(int what) {
            switch (what) {
                case 0:
                    return time;
                case 1:
                    return hour();
                case 2:
                    return flaws;
                case 3:
                    return late;
                case 4:
                    return alarms;
                case 11:
                    return twos.many;
                default:
                    return outcomeCount(what - FIRST_OUTCOME_COUNT);
            }
        }

        private int outcomeCount(int outcome) {
            return isBelow(outcome, OUTCOMES) ? outcomes[outcome] : 0;
        }
    }

    /** WAYS to one AREA: first how far each AREA is from it, then DOOR by DOOR. */
    static final class Route {
        private final int[] far = new int[AREAS];

        /** NO_WAY stands for an AREA from which none was found. */
        void measure(House house, int b, int goal) {
            for (int area = 0; area < AREAS; area++) {
                far[area] = NO_WAY;
            }
            far[goal] = 0;
            for (int steps = 1; steps < AREAS; steps++) {
                measureStep(house, b, steps);
            }
        }

        private void measureStep(House house, int b, int steps) {
            Doors doors = house.doors;
            for (int d = 0; d < doors.many; d++) {
                boolean isNew = far[doors.from[d]] == NO_WAY && far[doors.to[d]] == steps - 1;
                if (isNew && house.couldPass(b, d)) {
                    far[doors.from[d]] = steps;
                }
            }
        }

        int length(int start) {
            return far[start];
        }

        int doorAt(House house, int b, int start, int i) {
            if (i >= far[start]) {
                return NO_WAY;
            }
            int d = firstDoor(house, b, start);
            for (int k = 0; k < i && d != NO_WAY; k++) {
                d = firstDoor(house, b, house.doors.to[d]);
            }
            return d;
        }

        /** The DOOR of the least number that leads one step nearer. */
        private int firstDoor(House house, int b, int area) {
            Doors doors = house.doors;
            for (int d = 0; d < doors.many; d++) {
                boolean isNearer = doors.from[d] == area && far[doors.to[d]] == far[area] - 1;
                if (isNearer && house.couldPass(b, d)) {
                    return d;
                }
            }
            return NO_WAY;
        }
    }

    /** THE TEXT, and the reading of its ORDERS, one after the other. */
    static final class Text {
        int length;
        /** What takeOrder() took: the word, and behind it its numbers. */
        int word;
        final int[] numbers = new int[MOST_NUMBERS];
        private final int[] bytes = new int[MOST_BYTES];
        /** How far it has been read; where something could not be taken, the FAULT's place. */
        private int at;

        int append(int c) {
            if (length < MOST_BYTES) {
                bytes[length] = c;
                length++;
            }
            return length;
        }

        int empty() {
            int had = length;
            length = 0;
            return had;
        }

        int findFault() {
            restart();
            boolean isFine = takeOrder();
            for (int k = 0; k < MOST_BYTES && isFine && hasMore(); k++) {
                isFine = takeOrder();
            }
            return isFine ? NONE : at;
        }

        void restart() {
            at = 0;
        }

        boolean hasMore() {
            skipBlanks();
            return at < length;
        }

        boolean takeOrder() {
            if (!takeWord()) {
                return false;
            }
            int due = NUMBERS_BEHIND[word];
            for (int k = 0; k < due; k++) {
                if (!takeNumber(k)) {
                    return false;
                }
            }
            return takeEnd();
        }

        /** The FAULT of a word that is none is its first byte, so reading goes back to it. */
        private boolean takeWord() {
            skipBlanks();
            int start = at;
            while (at < length && bytes[at] >= 'a' && bytes[at] <= 'z') {
                at++;
            }
            for (int w = 0; w < WORDS; w++) {
                if (isSpelled(lettersOf(w), start, at)) {
                    word = w;
                    return true;
                }
            }
            at = start;
            return false;
        }

        private boolean isSpelled(String letters, int start, int end) {
            if (letters.length() != end - start) {
                return false;
            }
            for (int i = 0; i < letters.length(); i++) {
                if (letters.charAt(i) != bytes[start + i]) {
                    return false;
                }
            }
            return true;
        }

        private static String lettersOf(int w) {
            switch (w) {
                case BADGE_WORD:
                    return "badge";
                case DOOR_WORD:
                    return "door";
                case ASK_WORD:
                    return "ask";
                case DURESS_WORD:
                    return "duress";
                case WAIT_WORD:
                    return "wait";
                case OFF_WORD:
                    return "off";
                case ON_WORD:
                    return "on";
                default:
                    return "bar";
            }
        }

        private boolean takeNumber(int k) {
            skipBlanks();
            if (!isAtFigure()) {
                return false;
            }
            numbers[k] = takeFigure();
            if (isAtFigure()) {
                numbers[k] = 10 * numbers[k] + takeFigure();
            }
            return !isAtFigure();
        }

        private boolean isAtFigure() {
            return at < length && bytes[at] >= '0' && bytes[at] <= '9';
        }

        private int takeFigure() {
            int figure = bytes[at] - '0';
            at++;
            return figure;
        }

        private boolean takeEnd() {
            skipBlanks();
            if (at >= length || bytes[at] != ';') {
                return false;
            }
            at++;
            return true;
        }

        private void skipBlanks() {
            while (at < length && bytes[at] == ' ') {
                at++;
            }
        }
    }
}
