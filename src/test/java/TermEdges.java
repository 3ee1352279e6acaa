/** The edges that 'What it is' and 'Terms' name, but for those of texts and STATES. */
final class TermEdges {
    private static final int BAD = BadgeDoors.BAD, NONE = BadgeDoors.NONE;
    private static final int[] NIGHTS_AND_DAYS = {0, 7, 8, 9, 16, 17, 18, 23, 24, 31, 32, 41, 42, 55, 56};

    private final Edges e;

    TermEdges(Edges edges) {
        e = edges;
    }

    void look() {
        timeAtFirst();
        lastCalls();
        hourWrapsAround();
        dayAndNight();
        areas();
        doorNumbers();
        doorAtFirst();
        locksAtFirst();
        badgeNumbers();
        badgeAtFirst();
        open();
        firstReason();
        shut();
        wayOut();
        low();
        twice();
        alone();
        whoWaits();
        endOfWaiting();
        letWithAnother();
        flaws();
        offlineReasons();
        copies();
        notes();
        offlineLeavesAside();
        mergingOrder();
        merging();
        passedOrder();
        duress();
        muster();
        way();
        wayOfLikeOnes();
    }

    private void timeAtFirst() {
        e.at("What it is", "TIME is 0 at first; HOUR");
        BadgeDoors x = new BadgeDoors();
        e.asked(x, "TIME", 0, () -> x.count(0));
        e.asked(x, "HOUR", 0, () -> x.count(1));
    }

    private void lastCalls() {
        e.at("What it is", "An object is used for at most 512 calls after it has been made");
        BadgeDoors x = new BadgeDoors();
        for (int k = 1; k <= 511; k++) {
            e.is("waits(99), call " + k, x.waits(99), 99 * k % 24);
        }
        e.is("TIME by call 512", x.count(0), 99 * 511);
        BadgeDoors y = new BadgeDoors();
        for (int k = 1; k <= 511; k++) {
            e.is("told(7), call " + k, y.told(7), BAD);
        }
        e.is("BAD by call 512", y.told(0), 511);
        lastReads();
        lastAsks();
    }

    private void lastReads() {
        BadgeDoors x = new BadgeDoors();
        String text = "wait99;".repeat(21) + "   ";
        for (int i = 0; i < 150; i++) {
            x.type(text.charAt(i));
        }
        for (int k = 1; k <= 361; k++) {
            e.is("reads(), the " + k + "-th", x.reads(), 21);
        }
        e.is("TIME by call 512", x.count(0), 361 * 21 * 99);
    }

    private void lastAsks() {
        BadgeDoors x = Due.house(1, 1);
        x.online(0, 0);
        for (int k = 4; k <= 511; k++) {
            e.is("asks(0, 0, 1), call " + k, x.asks(0, 0, 1), 0);
        }
        e.is("ALARMS by call 512", x.about(0, 4), 508);
    }

    private void hourWrapsAround() {
        e.at("Terms", "TIME by 24 left over");
        BadgeDoors x = new BadgeDoors();
        e.is("23", x.waits(23), 23);
        e.is("24", x.waits(1), 0);
        e.is("HOUR of 24", x.count(1), 0);
        e.is("TIME stays", x.count(0), 24);
        e.is("48", x.waits(24), 0);
        e.is("73", x.waits(25), 1);
        e.is("172", x.waits(99), 4);
        e.is("back to 73", x.back() + x.count(1), 4);
    }

    private void dayAndNight() {
        e.at("Terms", "DAY: HOURS 8 to 17, else NIGHT");
        BadgeDoors x = new BadgeDoors();
        x.door(0, 1, 1, 0);
        x.door(0, 1, 0, 1);
        x.badge(0);
        x.online(x.door(0, 1, 1, 0), 0);
        int time = 0;
        for (int next : NIGHTS_AND_DAYS) {
            if (next > time) {
                x.waits(next - time);
            }
            time = next;
            boolean day = next % 24 > 7 && next % 24 < 18;
            e.is("by its DAY LEVEL at " + next, x.asks(0, 0, 0), day ? 3 : 0);
            e.is("by its NIGHT LEVEL at " + next, x.asks(0, 1, 0), day ? 0 : 3);
            e.is("off the house at " + next, x.asks(0, 2, 0), day ? 3 : 0);
            e.is("WAY at " + next, x.way(0, 0, 1, 0), day ? 1 : 0);
        }
    }

    private void areas() {
        e.at("Terms", "AREAS 0 .. 5, 0 being OUTSIDE");
        BadgeDoors x = new BadgeDoors();
        x.badge(0);
        for (int area = 0; area < 6; area++) {
            int a = area;
            e.asked(x, "inside " + a, a == 0 ? 1 : 0, () -> x.inside(a, 0));
            e.asked(x, "muster but for " + a, 0, () -> x.muster(a));
            e.asked(x, "no WAY to " + a, -5, () -> x.way(0, a == 0 ? 5 : 0, a, -1));
        }
        e.refused(x, "AREA -1", BAD, () -> x.inside(-1, 0));
        e.refused(x, "AREA 6", BAD, () -> x.inside(6, 0));
        e.is("from the first to the last", x.door(0, 5, 0, 0), 0);
        e.is("and back", x.door(5, 0, 0, 0), 1);
        e.at("Terms", "FROM, TO (unlike AREAS)");
        for (int area = 0; area < 6; area++) {
            int a = area;
            e.refused(x, "from and to " + a, BAD, () -> x.door(a, a, 0, 0));
        }
    }

    private void doorNumbers() {
        e.at("Terms", "DOORS 0 .. 7, as they come");
        BadgeDoors x = new BadgeDoors();
        e.refused(x, "DOOR -1", BAD, () -> x.of(-1, 0));
        for (int door = 0; door < 8; door++) {
            int d = door;
            e.refused(x, "DOOR " + d + " is not there yet", BAD, () -> x.of(d, 1));
            e.is("its number", x.door(0, 1 + d % 5, 0, 0), d);
            e.asked(x, "DOOR " + d, 1 + d % 5, () -> x.of(d, 1));
        }
        e.refused(x, "DOOR 8", BAD, () -> x.of(8, 0));
        x.back();
        e.refused(x, "DOOR 7, taken back", BAD, () -> x.of(7, 0));
        e.is("its number again", x.door(1, 2, 0, 0), 7);
    }

    private void doorAtFirst() {
        BadgeDoors x = new BadgeDoors();
        e.at("Terms", "DAY LEVEL, NIGHT LEVEL (0 .. 3 each)");
        e.is("the least", x.door(1, 2, 0, 0), 0);
        e.is("the most", x.door(1, 2, 3, 3), 1);
        e.refused(x, "DAY LEVEL -1", BAD, () -> x.door(1, 2, -1, 0));
        e.refused(x, "DAY LEVEL 4", BAD, () -> x.door(1, 2, 4, 0));
        e.refused(x, "NIGHT LEVEL -1", BAD, () -> x.door(1, 2, 0, -1));
        e.refused(x, "NIGHT LEVEL 4", BAD, () -> x.door(1, 2, 0, 4));
        e.at("Terms", "BACK (0 none, 1 SOFT, 2 HARD; 0 at first)");
        e.is("at first", x.of(0, 4), 0);
        e.is("the most", x.sets(0, 0, 2), 0);
        e.is("the least", x.sets(0, 0, 0), 2);
        e.refused(x, "more", BAD, () -> x.sets(0, 0, 3));
        e.refused(x, "less", BAD, () -> x.sets(0, 0, -1));
        e.at("Terms", "PAIR (0, 1; 0)");
        e.is("at first", x.of(0, 5), 0);
        e.is("the most", x.sets(0, 1, 1), 0);
        e.is("the least", x.sets(0, 1, 0), 1);
        e.refused(x, "more", BAD, () -> x.sets(0, 1, 2));
        e.refused(x, "less", BAD, () -> x.sets(0, 1, -1));
        e.at("Terms", "ONLINE (at first) or not");
        e.is("at first", x.of(0, 7), 1);
        e.is("off", x.online(0, 0), 0);
        e.is("not", x.of(0, 7), 0);
        e.is("the other one", x.of(1, 7), 1);
    }

    private void locksAtFirst() {
        e.at("Terms", "LOCK: another DOOR or none (none; if d has LOCK e, e has LOCK d)");
        for (int first = 0; first < 8; first++) {
            BadgeDoors x = new BadgeDoors();
            for (int d = 0; d < 8; d++) {
                x.door(0, 1, 0, 0);
                e.is("none at first", x.of(d, 6), NONE);
            }
            for (int k = 0; k < 24; k++) {
                int d = (first + 3 * k) % 8;
                int other = (first + 5 * k + k / 8) % 8;
                x.locks(d, other);
                looksBothWays(x);
            }
        }
    }

    private void looksBothWays(BadgeDoors x) {
        for (int d = 0; d < 8; d++) {
            int lock = x.of(d, 6);
            e.is("the LOCK of the LOCK of " + d, lock == NONE ? d : x.of(lock, 6), d);
        }
    }

    private void badgeNumbers() {
        e.at("Terms", "BADGES 0 .. 7, as they come");
        BadgeDoors x = new BadgeDoors();
        e.refused(x, "BADGE -1", BAD, () -> x.about(-1, 0));
        for (int badge = 0; badge < 8; badge++) {
            int b = badge;
            e.refused(x, "BADGE " + b + " is not there yet", BAD, () -> x.about(b, 0));
            e.is("its number", x.badge(b % 4), b);
            e.asked(x, "BADGE " + b, b % 4, () -> x.about(b, 0));
        }
        e.refused(x, "BADGE 8", BAD, () -> x.about(8, 0));
        x.back();
        e.refused(x, "BADGE 7, taken back", BAD, () -> x.about(7, 0));
        e.is("its number again", x.badge(0), 7);
    }

    private void badgeAtFirst() {
        BadgeDoors x = Due.house(1, 0);
        x.waits(30);
        e.at("Terms", "a LEVEL (0 .. 3)");
        e.is("the least", x.badge(0), 0);
        e.is("the most", x.badge(3), 1);
        e.refused(x, "less", BAD, () -> x.badge(-1));
        e.refused(x, "more", BAD, () -> x.badge(4));
        e.at("Terms", "BARRED or not (not at first)");
        e.is("at first", x.about(0, 1), 0);
        e.at("Terms", "IN: an AREA (0 at first)");
        e.is("at first", x.about(0, 2), 0);
        e.at("Terms", "SINCE (the TIME of its last move; 0 at first)");
        e.is("at first, though it came later", x.about(0, 3), 0);
        x.asks(0, 0, 0);
        e.is("of its first move", x.about(0, 3), 30);
        x.waits(1);
        x.asks(0, 0, 0);
        e.is("of a move to where it is", x.about(0, 3), 31);
        e.is("of the other one", x.about(1, 3), 0);
    }

    private void open() {
        e.at("Terms", "A DOOR is OPEN, if it let someone at this TIME");
        BadgeDoors x = Due.house(1, 2);
        e.is("none yet, at TIME 0", x.of(0, 8), 0);
        x.bars(0, 1);
        x.asks(0, 0, 0);
        e.is("one that was not LET", x.of(0, 8), 0);
        x.asks(1, 0, 0);
        e.is("LET", x.of(0, 8), 1);
        x.asks(0, 0, 0);
        e.is("still, when another was not LET", x.of(0, 8), 1);
        x.waits(1);
        e.is("a TIME later", x.of(0, 8), 0);
        x.back();
        e.is("back at that TIME", x.of(0, 8), 1);
        x.waits(24);
        e.is("the same HOUR a day later", x.of(0, 8), 0);
        x.online(0, 0);
        x.asks(1, 0, 0);
        e.is("passed", x.of(0, 8), 1);
        x.waits(1);
        x.online(0, 1);
        e.is("by MERGING none is let", x.of(0, 8), 0);
    }

    /** At DOOR 0 every reason holds for BADGE 0; one after the other is taken away. */
    private void firstReason() {
        e.at("Terms", "the first of: 1 SHUT: its LOCK is OPEN.");
        BadgeDoors x = new BadgeDoors();
        x.door(1, 2, 3, 3);
        x.door(0, 1, 0, 0);
        x.badge(0);
        x.badge(0);
        x.bars(0, 1);
        x.sets(0, 0, 2);
        x.sets(0, 1, 1);
        x.locks(0, 1);
        x.asks(1, 1, 0);
        e.is("all hold", x.asks(0, 0, 0), 1);
        x.waits(1);
        e.at("Terms", "2 BARRED. 3 LOW");
        e.is("but SHUT", x.asks(0, 0, 0), 2);
        x.bars(0, 0);
        e.is("but BARRED", x.asks(0, 0, 0), 3);
        x.levels(0, 3);
        e.at("Terms", "4 TWICE: BACK is HARD, and IN is not FROM. 5 ALONE");
        e.is("but LOW", x.asks(0, 0, 0), 4);
        x.asks(0, 1, 0);
        x.waits(1);
        e.is("but TWICE", x.asks(0, 0, 0), 5);
        x.sets(0, 1, 0);
        e.is("but ALONE", x.asks(0, 0, 0), 0);
        for (int what = 6; what <= 10; what++) {
            e.is("count(" + what + ")", x.count(what), 1);
        }
    }

    private void shut() {
        e.at("Terms", "1 SHUT: its LOCK is OPEN.");
        BadgeDoors x = Due.house(1, 2);
        x.door(0, 1, 0, 0);
        x.door(1, 0, 0, 0);
        e.is("LET", x.asks(0, 0, 0), 0);
        e.is("no LOCK", x.asks(1, 1, 0), 0);
        x.locks(0, 1);
        e.is("both are OPEN: 0 is SHUT", x.asks(0, 0, 0), 1);
        e.is("both are OPEN: 1 is SHUT", x.asks(0, 1, 0), 1);
        x.waits(1);
        e.is("a TIME later", x.asks(0, 1, 0), 0);
        e.is("it is OPEN, its LOCK is not", x.asks(1, 1, 0), 0);
        e.is("SHUT", x.asks(1, 0, 0), 1);
        x.locks(1, 2);
        e.is("no LOCK any more", x.asks(1, 0, 0), 0);
        e.is("a LOCK that was OPEN before", x.asks(1, 2, 0), 1);
        x.locks(2, NONE);
        e.is("none any more", x.asks(1, 2, 0), 0);
    }

    private void wayOut() {
        e.at("Terms", "If its TO is OUTSIDE: LET.");
        BadgeDoors x = new BadgeDoors();
        x.door(1, 0, 3, 3);
        x.door(0, 1, 0, 0);
        x.badge(0);
        x.badge(0);
        x.bars(0, 1);
        x.sets(0, 0, 2);
        x.sets(0, 1, 1);
        e.is("though BARRED, LOW, TWICE and ALONE", x.asks(0, 0, 0), 0);
        e.is("a FLAW all the same", x.count(2), 1);
        e.is("none WAITS", x.of(0, 9), NONE);
        e.is("one alone was LET", x.count(5), 1);
        x.waits(1);
        x.locks(0, 1);
        x.asks(1, 1, 0);
        e.is("but not if SHUT", x.asks(0, 0, 0), 1);
    }

    private void low() {
        e.at("Terms", "3 LOW: LEVEL is below that of the DOOR by this HOUR.");
        for (int level = 0; level < 4; level++) {
            BadgeDoors x = new BadgeDoors();
            x.badge(level);
            for (int need = 0; need < 4; need++) {
                x.door(0, 1, need, 3 - need);
            }
            for (int need = 0; need < 4; need++) {
                e.is(level + " by night for " + (3 - need), x.asks(0, need, 0), level < 3 - need ? 3 : 0);
            }
            x.waits(8);
            for (int need = 0; need < 4; need++) {
                e.is(level + " by day for " + need, x.asks(0, need, 0), level < need ? 3 : 0);
            }
        }
    }

    private void twice() {
        e.at("Terms", "4 TWICE: BACK is HARD, and IN is not FROM.");
        for (int back = 0; back < 3; back++) {
            BadgeDoors x = Due.house(1, 1);
            x.sets(0, 0, back);
            e.is("IN is FROM", x.asks(0, 0, 0), 0);
            e.is("no FLAW", x.count(2), 0);
            e.is("IN is TO, BACK " + back, x.asks(0, 0, 0), back == 2 ? 4 : 0);
            e.is("FLAWS", x.count(2), back == 1 ? 1 : 0);
            e.is("TWICE", x.count(9), back == 2 ? 1 : 0);
        }
    }

    private void alone() {
        e.at("Terms", "5 ALONE: PAIR is 1, and no other BADGE WAITS there");
        BadgeDoors x = Due.house(1, 3);
        x.door(0, 1, 0, 0);
        x.sets(1, 1, 1);
        e.is("PAIR is 0", x.asks(0, 0, 0), 0);
        x.sets(0, 1, 1);
        e.is("none WAITS", x.asks(0, 0, 0), 5);
        e.is("no other one WAITS", x.asks(0, 0, 0), 5);
        e.is("another one WAITS, but not there", x.asks(1, 1, 0), 5);
        e.is("another one WAITS", x.asks(1, 0, 0), 0);
        e.is("at the other DOOR it WAITS yet", x.of(1, 9), 1);
    }

    private void whoWaits() {
        e.at("Terms", "(the first BADGE that was ALONE there at this TIME WAITS");
        BadgeDoors x = Due.house(1, 3);
        x.sets(0, 1, 1);
        x.bars(1, 1);
        e.is("none yet", x.of(0, 9), NONE);
        e.is("BARRED", x.asks(1, 0, 0), 2);
        e.is("one that was not ALONE", x.of(0, 9), NONE);
        e.is("ALONE", x.asks(2, 0, 0), 5);
        e.is("it WAITS", x.of(0, 9), 2);
        e.is("BARRED", x.asks(1, 0, 0), 2);
        e.is("it WAITS yet", x.of(0, 9), 2);
        e.is("ALONE again", x.asks(2, 0, 0), 5);
        e.is("it WAITS yet", x.of(0, 9), 2);
        x.sets(0, 1, 0);
        x.asks(0, 0, 0);
        e.is("where one was let it WAITS yet", x.of(0, 9), 2);
        x.online(0, 0);
        x.asks(0, 0, 0);
        e.is("where one passed, too", x.of(0, 9), 2);
    }

    private void endOfWaiting() {
        e.at("Terms", "none, when TIME goes by, when two were let)");
        BadgeDoors x = Due.house(1, 3);
        x.door(0, 2, 0, 0);
        x.sets(0, 1, 1);
        x.sets(1, 1, 1);
        x.asks(0, 0, 0);
        x.asks(0, 1, 0);
        e.is("TIME stays", x.waits(0), BAD);
        e.is("it WAITS yet", x.of(0, 9), 0);
        x.waits(1);
        e.is("TIME went by at the first", x.of(0, 9), NONE);
        e.is("and at the last DOOR", x.of(1, 9), NONE);
        e.is("ALONE", x.asks(1, 0, 0), 5);
        x.asks(1, 1, 0);
        e.is("two are let", x.asks(2, 0, 0), 0);
        e.is("none WAITS there", x.of(0, 9), NONE);
        e.is("elsewhere it WAITS yet", x.of(1, 9), 1);
        e.is("a third one is ALONE", x.asks(0, 0, 0), 5);
        x.back();
        x.back();
        e.is("back: it WAITS again", x.of(0, 9), 1);
    }

    private void letWithAnother() {
        e.at("Terms", "Else LET; with PAIR the one that WAITS, too, after it.");
        BadgeDoors x = Due.house(1, 3);
        x.door(0, 2, 0, 0);
        x.sets(0, 0, 1);
        x.sets(0, 1, 1);
        x.waits(5);
        x.asks(2, 0, 1);
        x.asks(2, 1, 0);
        x.bars(2, 1);
        e.is("LET", x.asks(1, 0, 1), 0);
        e.is("both are IN", x.inside(1, 1), 6);
        e.is("both at this TIME", x.about(2, 3) + x.about(1, 3), 10);
        e.is("the one that asks first", x.passed(1, 0), 1);
        e.is("then the one that WAITS", x.passed(2, 0), 2);
        e.is("both count", x.count(5), 3);
        e.is("a FLAW of the one that had moved", x.count(2), 1);
        e.is("ALARMS of the one that asks alone", x.count(4), 1);
        e.is("not of the other", x.about(2, 4), 0);
    }

    private void flaws() {
        e.at("Terms", "LET: if BACK is not 0 and IN is not FROM, it is a FLAW; IN is TO, SINCE is TIME; the DOOR is OPEN; PASSED.");
        BadgeDoors x = new BadgeDoors();
        x.door(1, 2, 0, 0);
        x.badge(0);
        e.is("BACK is 0", x.asks(0, 0, 0) + x.count(2), 0);
        x.sets(0, 0, 1);
        x.asks(0, 0, 0);
        e.is("SOFT", x.count(2), 1);
        x.sets(0, 0, 2);
        e.is("HARD", x.asks(0, 0, 0), 4);
        e.is("none by one that is not LET", x.count(2), 1);
        x.door(2, 1, 0, 0);
        x.asks(0, 1, 0);
        x.waits(1);
        e.is("HARD, IN is FROM", x.asks(0, 0, 0), 0);
        e.is("no FLAW", x.count(2), 1);
        e.is("IN is TO", x.about(0, 2), 2);
        e.is("SINCE is TIME", x.about(0, 3), 1);
        e.is("the DOOR is OPEN", x.of(0, 8), 1);
        e.is("PASSED", x.passed(0, 2), 3);
    }

    private void offlineReasons() {
        e.at("Terms", "1 SHUT; if TO is OUTSIDE: it passes; 2 BARRED, 3 LOW by its COPY");
        BadgeDoors x = new BadgeDoors();
        x.door(1, 0, 3, 3);
        x.door(0, 1, 3, 3);
        x.door(0, 1, 0, 0);
        x.badge(0);
        x.badge(3);
        x.bars(0, 1);
        x.online(0, 0);
        x.online(1, 0);
        x.locks(0, 2);
        x.asks(1, 2, 0);
        e.is("SHUT, though to OUTSIDE", x.asks(0, 0, 0), 1);
        x.locks(1, 2);
        e.is("SHUT before BARRED", x.asks(0, 1, 0), 1);
        e.is("to OUTSIDE, though BARRED and LOW", x.asks(0, 0, 0), 0);
        x.waits(1);
        e.is("BARRED before LOW", x.asks(0, 1, 0), 2);
        x.bars(0, 0);
        x.online(1, 1);
        x.online(1, 0);
        e.is("LOW", x.asks(0, 1, 0), 3);
        e.is("a LEVEL just enough", x.asks(1, 1, 0), 0);
        e.is("its LOCK is SHUT", x.asks(1, 2, 0), 1);
        e.is("not let or passed", x.count(6) + x.count(7) + x.count(8), 5);
    }

    private void copies() {
        e.at("Terms", "(BARRED ones, LEVELS of all BADGES as they were when it went off;");
        BadgeDoors x = new BadgeDoors();
        x.door(0, 1, 2, 2);
        x.badge(2);
        x.badge(1);
        x.badge(3);
        x.bars(2, 1);
        x.online(0, 0);
        x.levels(0, 0);
        x.levels(1, 3);
        x.bars(0, 1);
        x.bars(2, 0);
        e.is("it was neither", x.asks(0, 0, 0), 0);
        e.is("it was LOW", x.asks(1, 0, 0), 3);
        e.is("it was BARRED", x.asks(2, 0, 0), 2);
        e.at("Terms", "a BADGE that came later is BARRED there)");
        x.badge(3);
        e.is("the first that came later", x.asks(3, 0, 0), 2);
        for (int b = 4; b < 8; b++) {
            x.badge(3);
        }
        e.is("the last that came later", x.asks(7, 0, 0), 2);
        x.online(0, 1);
        x.online(0, 0);
        e.is("in the next COPY", x.asks(7, 0, 0), 0);
        e.is("in the next COPY it is BARRED", x.asks(0, 0, 0), 2);
        BadgeDoors y = Due.house(1, 0);
        y.online(0, 0);
        y.badge(3);
        e.is("in a COPY of no BADGES", y.asks(0, 0, 0), 2);
    }

    private void notes() {
        e.at("Terms", "else it passes: the DOOR is OPEN; its NOTES have one more (TIME, BADGE, DOOR; 20 of a DOOR at most, what is more is not noted)");
        BadgeDoors x = Due.house(1, 2);
        x.door(0, 1, 0, 0);
        x.online(0, 0);
        x.online(1, 0);
        for (int k = 1; k <= 23; k++) {
            x.waits(1);
            e.is("the " + k + "-th passes", x.asks(0, 0, 1), 0);
            e.is("NOTES", x.of(0, 10), Math.min(k, 20));
        }
        e.is("OPEN by one not noted", x.of(0, 8), 1);
        e.is("ALARMS by those, too", x.count(4), 23);
        e.is("PASSED by those, too", x.passed(0, 2), 23);
        e.is("the last NOTE's TIME", x.note(0, 19, 0), 20);
        e.is("no NOTE behind it", x.note(0, 20, 0), NONE);
        x.asks(1, 1, 0);
        e.is("another DOOR has its own", x.of(1, 10), 1);
        e.is("its TIME", x.note(1, 0, 0), 23);
        e.is("MERGED", x.online(0, 1), 20);
        e.is("SINCE by the last NOTE", x.about(0, 3), 20);
        x.online(0, 0);
        x.asks(1, 0, 0);
        e.is("room again", x.of(0, 10), 1);
    }

    private void offlineLeavesAside() {
        e.at("Terms", "PASSED; IN stays. (BACK, PAIR are not looked at.)");
        BadgeDoors x = new BadgeDoors();
        x.door(1, 2, 0, 0);
        x.badge(0);
        x.sets(0, 0, 2);
        x.sets(0, 1, 1);
        x.online(0, 0);
        x.waits(3);
        e.is("passes", x.asks(0, 0, 0), 0);
        e.is("IN stays", x.about(0, 2), 0);
        e.is("SINCE stays", x.about(0, 3), 0);
        e.is("no FLAW yet", x.count(2), 0);
        e.is("none WAITS", x.of(0, 9), NONE);
        e.is("PASSED", x.passed(0, 2), 1);
        x.online(0, 1);
        e.is("a FLAW then", x.count(2), 1);
        e.is("no more PASSED then", x.count(5), 1);
        e.is("SINCE is the NOTE's", x.about(0, 3), 3);
    }

    private void mergingOrder() {
        e.at("Terms", "its NOTES, by TIME, of like ones as they came, then it has none");
        BadgeDoors x = Due.house(1, 2);
        x.sets(0, 0, 1);
        x.online(0, 0);
        x.asks(1, 0, 0);
        x.asks(0, 0, 0);
        x.asks(1, 0, 0);
        x.waits(1);
        x.asks(0, 0, 0);
        int[] badges = {1, 0, 1, 0};
        for (int i = 0; i < 4; i++) {
            e.is("BADGE of NOTE " + i, x.note(0, i, 1), badges[i]);
            e.is("TIME of NOTE " + i, x.note(0, i, 0), i / 3);
        }
        e.is("MERGED", x.online(0, 1), 4);
        e.is("FLAWS by those that came later", x.count(2), 2);
        e.is("none LATE", x.count(3), 0);
        e.is("SINCE of 0", x.about(0, 3), 1);
        e.is("SINCE of 1", x.about(1, 3), 0);
        e.is("it has none", x.of(0, 10), 0);
        e.asked(x, "it has none", NONE, () -> x.note(0, 0, 0));
        x.back();
        e.is("back: it has them", x.of(0, 10), 4);
    }

    /** BADGE 0 moves at TIME 10; NOTES of it are one TIME before, at, and one TIME after that. */
    private void merging() {
        e.at("Terms", "if its TIME is SINCE of the BADGE or more");
        for (int when = 9; when <= 11; when++) {
            BadgeDoors x = Due.house(1, 1);
            x.door(1, 2, 0, 0);
            x.sets(1, 0, 1);
            x.online(1, 0);
            x.waits(9);
            for (int time = 9; time <= 11; time++) {
                if (time == when) {
                    x.asks(0, 1, 0);
                }
                if (time == 10) {
                    x.asks(0, 0, 0);
                }
                x.waits(1);
            }
            e.is("MERGED, LATE or not", x.online(1, 1), 1);
            e.is("IN by " + when, x.about(0, 2), when < 10 ? 1 : 2);
            e.is("SINCE by " + when, x.about(0, 3), Math.max(when, 10));
            e.is("no FLAW", x.count(2), 0);
            e.is("LATE by " + when, x.count(3), when < 10 ? 1 : 0);
        }
        e.at("Terms", "else it is LATE.");
        BadgeDoors x = Due.house(1, 1);
        x.door(1, 2, 0, 0);
        x.sets(1, 0, 2);
        x.online(1, 0);
        x.asks(0, 1, 0);
        x.asks(0, 1, 0);
        x.waits(1);
        x.asks(0, 0, 0);
        x.asks(0, 0, 0);
        e.is("MERGED", x.online(1, 1), 2);
        e.is("each is LATE", x.count(3), 2);
        e.is("LATE ones are no FLAWS", x.count(2), 0);
        e.at("Terms", "if BACK of the DOOR is not 0 and IN is not FROM, it is a FLAW; IN is TO, SINCE that TIME");
        for (int back = 0; back < 3; back++) {
            BadgeDoors y = Due.house(1, 1);
            y.sets(0, 0, back);
            y.online(0, 0);
            y.asks(0, 0, 0);
            y.asks(0, 0, 0);
            y.online(0, 1);
            e.is("IN is FROM, then it is not: BACK " + back, y.count(2), back == 0 ? 0 : 1);
        }
    }

    private void passedOrder() {
        e.at("Terms", "of each BADGE and DOOR how often it passed (ONLINE or not), in the order in which each such two first came");
        BadgeDoors x = Due.house(1, 2);
        x.door(0, 1, 0, 0);
        x.online(1, 0);
        x.asks(1, 1, 0);
        x.asks(0, 0, 0);
        x.asks(1, 1, 0);
        x.asks(1, 0, 0);
        x.asks(1, 1, 0);
        int[][] twos = {{1, 1, 3}, {0, 0, 1}, {1, 0, 1}};
        for (int i = 0; i < 3; i++) {
            for (int what = 0; what < 3; what++) {
                e.is("passed(" + i + ", " + what + ")", x.passed(i, what), twos[i][what]);
            }
        }
        x.online(1, 1);
        e.is("MERGING adds none", x.count(11), 3);
    }

    private void duress() {
        e.at("Terms", "ASKING with it is as without; if it is LET, or passes, ALARMS are 1 more (of the BADGE that asks)");
        BadgeDoors x = new BadgeDoors();
        x.door(1, 2, 0, 0);
        x.door(0, 1, 0, 0);
        x.door(1, 2, 3, 3);
        x.badge(0);
        x.badge(0);
        x.bars(1, 1);
        x.sets(0, 0, 2);
        x.locks(1, 2);
        e.is("BARRED", x.asks(1, 1, 1), 2);
        e.is("LOW", x.asks(0, 2, 1), 3);
        e.is("TWICE", x.asks(0, 0, 1), 4);
        x.sets(0, 0, 1);
        x.sets(0, 1, 1);
        e.is("ALONE", x.asks(0, 0, 1), 5);
        e.is("LET without", x.asks(0, 1, 0), 0);
        e.is("SHUT", x.asks(0, 2, 1), 1);
        e.is("no ALARMS", x.count(4) + x.about(0, 4) + x.about(1, 4), 0);
        e.is("LET", x.asks(0, 1, 1), 0);
        e.is("an ALARM", x.count(4), 1);
        x.bars(1, 0);
        e.is("LET with another", x.asks(1, 0, 1), 0);
        e.is("an ALARM more", x.count(4), 2);
        e.is("of the one that asks", x.about(1, 4), 1);
        x.online(0, 0);
        e.is("passes", x.asks(1, 0, 1), 0);
        e.is("an ALARM more", x.about(1, 4), 2);
        x.online(0, 1);
        e.is("none by MERGING", x.count(4), 3);
    }

    private void muster() {
        e.at("Terms", "BADGES that are IN an AREA that is not OUTSIDE, nor a told one");
        BadgeDoors x = new BadgeDoors();
        for (int area = 1; area < 6; area++) {
            x.door(0, area, 0, 0);
        }
        for (int b = 0; b < 8; b++) {
            x.badge(0);
            if (b < 7) {
                x.asks(b, b % 5, 0);
            }
        }
        int[] want = {127, 94, 61, 123, 119, 111};
        for (int area = 0; area < 6; area++) {
            int a = area;
            e.asked(x, "but for " + a, want[a], () -> x.muster(a));
        }
    }

    private void way() {
        e.at("Terms", "the fewest DOORS, from one to the next, that it could pass at this HOUR by BARRED, LEVELS (to OUTSIDE always)");
        BadgeDoors x = new BadgeDoors();
        for (int area = 5; area > 0; area--) {
            x.door(area, area - 1, 1, 0);
        }
        x.badge(0);
        e.is("the longest there can be", x.way(0, 5, 0, -1), 5);
        for (int i = 0; i < 5; i++) {
            e.is("its DOOR " + i, x.way(0, 5, 0, i), i);
        }
        x.door(4, 0, 3, 3);
        e.is("a shorter one, as OUTSIDE is free", x.way(0, 5, 0, -1), 2);
        e.is("its first", x.way(0, 5, 0, 0), 0);
        e.is("its last", x.way(0, 5, 0, 1), 5);
        x.door(0, 5, 0, 0);
        e.is("through OUTSIDE", x.way(0, 1, 4, -1), 3);
        x.waits(8);
        e.is("LOW by day", x.way(0, 5, 0, -1), -5);
        e.is("to OUTSIDE always", x.way(0, 4, 0, 0), 5);
        x.levels(0, 1);
        e.is("just enough", x.way(0, 5, 0, -1), 2);
        x.bars(0, 1);
        e.is("BARRED", x.way(0, 5, 0, -1), -5);
        e.is("BARRED, to OUTSIDE", x.way(0, 1, 0, -1), 1);
        e.at("Terms", "ONLINE or not, LOCK, BACK, PAIR aside");
        BadgeDoors y = new BadgeDoors();
        y.door(1, 2, 0, 0);
        y.door(0, 1, 0, 0);
        y.badge(0);
        y.badge(0);
        y.bars(0, 1);
        y.online(0, 0);
        y.bars(0, 0);
        y.sets(0, 0, 2);
        y.sets(0, 1, 1);
        y.locks(0, 1);
        y.asks(1, 1, 0);
        e.is("SHUT, BARRED by its COPY, TWICE, ALONE", y.way(0, 1, 2, 0), 0);
    }

    private void wayOfLikeOnes() {
        e.at("Terms", "of like ones the first by numbers");
        BadgeDoors x = new BadgeDoors();
        x.door(2, 5, 0, 0);
        x.door(0, 1, 0, 0);
        x.door(0, 2, 0, 0);
        x.door(1, 5, 0, 0);
        x.door(1, 5, 0, 0);
        x.door(0, 1, 0, 0);
        x.badge(0);
        e.is("two", x.way(0, 0, 5, -1), 2);
        e.is("by the first DOOR, not by the last", x.way(0, 0, 5, 0), 1);
        e.is("then by the first", x.way(0, 0, 5, 1), 3);
        x.door(0, 3, 0, 0);
        x.door(3, 1, 0, 0);
        e.is("fewer come before less", x.way(0, 0, 1, 0), 1);
    }
}
