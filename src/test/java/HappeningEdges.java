/** The edges that promises 9 to 18 name: asks, waits, of, about, note, inside, muster, way, passed, count. */
final class HappeningEdges {
    private static final int BAD = BadgeDoors.BAD, NONE = BadgeDoors.NONE;
    private static final int NO_WAY = -5, MOST = Integer.MAX_VALUE;

    private final Edges e;

    HappeningEdges(Edges edges) {
        e = edges;
    }

    void look() {
        asks();
        asksRefused();
        waits();
        of();
        about();
        note();
        inside();
        muster();
        way();
        wayRefused();
        passed();
        count();
    }

    private void asks() {
        e.at("Promise 9", "ASKING, with DURESS (1) or without: 0 LET (or it passes), else 1 to 5 as told");
        BadgeDoors x = Due.house(8, 8);
        e.is("the first at the first", x.asks(0, 0, 0), 0);
        e.is("the last at the last", x.asks(7, 7, 1), 0);
        x.online(7, 0);
        e.is("it passes", x.asks(7, 7, 0), 0);
        x.locks(6, 7);
        e.is("SHUT", x.asks(0, 6, 0), 1);
        x.bars(1, 1);
        e.is("BARRED", x.asks(1, 0, 1), 2);
        x.back();
        x.back();
        x.door(0, 1, 0, 0);
        x.sets(5, 0, 2);
        e.is("TWICE", x.asks(0, 5, 0), 4);
        x.sets(5, 1, 1);
        e.is("ALONE", x.asks(2, 5, 0), 5);
        e.is("with another", x.asks(3, 5, 1), 0);
        BadgeDoors y = new BadgeDoors();
        y.door(0, 5, 3, 3);
        y.badge(2);
        e.is("LOW", y.asks(0, 0, 1), 3);
        e.at("Promise 9", "S");
        e.leavesState(y, "one that is not LET", 3, () -> y.asks(0, 0, 1));
        y.levels(0, 3);
        e.leavesState(y, "LET", 0, () -> y.asks(0, 0, 1));
        y.online(0, 0);
        e.leavesState(y, "it passes", 0, () -> y.asks(0, 0, 1));
        e.is("all is as it was", y.count(4) + y.count(5) + y.count(11) + y.of(0, 8) + y.of(0, 10), 0);
    }

    private void asksRefused() {
        e.at("Promise 9", "BAD");
        BadgeDoors x = Due.house(8, 8);
        e.badNumbers(x, new int[][] {{0, 7}, {0, 7}, {0, 1}}, n -> x.asks(n[0], n[1], n[2]));
        BadgeDoors y = Due.house(1, 1);
        e.badNumbers(y, new int[][] {{0, 0}, {0, 0}, {0, 1}}, n -> y.asks(n[0], n[1], n[2]));
        BadgeDoors doorsAlone = Due.house(1, 0);
        e.refused(doorsAlone, "no BADGES", BAD, () -> doorsAlone.asks(0, 0, 0));
        BadgeDoors badgesAlone = Due.house(0, 1);
        e.refused(badgesAlone, "no DOORS", BAD, () -> badgesAlone.asks(0, 0, 0));
    }

    private void waits() {
        e.at("Promise 10", "TIME is n (1 .. 99) more: HOUR then");
        BadgeDoors x = new BadgeDoors();
        e.is("the least", x.waits(1), 1);
        e.is("the most", x.waits(99), 4);
        e.is("TIME", x.count(0), 100);
        e.is("to the last HOUR", x.waits(19), 23);
        e.is("and to the first", x.waits(1), 0);
        e.at("Promise 10", "S");
        e.leavesState(x, "the most", 3, () -> x.waits(99));
        e.at("Promise 10", "BAD");
        e.badNumbers(x, new int[][] {{1, 99}}, n -> x.waits(n[0]));
    }

    private void of() {
        e.at("Promise 11", "Of a DOOR: FROM (what 0), TO (1), DAY LEVEL (2), NIGHT LEVEL (3), BACK (4), PAIR (5), LOCK (6; NONE), ONLINE (7: 1, 0), whether it is OPEN (8), the BADGE that WAITS (9; NONE), NOTES (10)");
        BadgeDoors x = Due.house(7, 8);
        x.door(5, 4, 3, 2);
        x.badge(0);
        x.levels(7, 3);
        x.levels(6, 3);
        int[] atFirst = {5, 4, 3, 2, 0, 0, NONE, 1, 0, NONE, 0};
        sameFacts(x, 7, atFirst);
        x.sets(7, 0, 1);
        x.sets(7, 1, 1);
        x.locks(7, 0);
        x.asks(7, 7, 0);
        int[] waiting = {5, 4, 3, 2, 1, 1, 0, 1, 0, 7, 0};
        sameFacts(x, 7, waiting);
        x.asks(6, 7, 0);
        x.online(7, 0);
        x.asks(6, 7, 0);
        int[] off = {5, 4, 3, 2, 1, 1, 0, 0, 1, NONE, 1};
        sameFacts(x, 7, off);
        int[] itsLock = {0, 1, 0, 0, 0, 0, 7, 1, 0, NONE, 0};
        sameFacts(x, 0, itsLock);
        e.at("Promise 11", "BAD");
        e.badNumbers(x, new int[][] {{0, 7}, {0, 10}}, n -> x.of(n[0], n[1]));
        BadgeDoors y = Due.house(1, 0);
        e.badNumbers(y, new int[][] {{0, 0}, {0, 10}}, n -> y.of(n[0], n[1]));
    }

    private void sameFacts(BadgeDoors x, int d, int[] want) {
        for (int what = 0; what < 11; what++) {
            int w = what;
            e.asked(x, "of(" + d + ", " + w + ")", want[w], () -> x.of(d, w));
        }
    }

    private void about() {
        e.at("Promise 12", "Of a BADGE: LEVEL (what 0), BARRED (1), IN (2), SINCE (3), ALARMS (4), how often it passed (5)");
        BadgeDoors x = new BadgeDoors();
        x.door(0, 5, 3, 3);
        for (int b = 0; b < 8; b++) {
            x.badge(3);
        }
        x.waits(99);
        x.asks(7, 0, 1);
        x.asks(7, 0, 1);
        x.online(0, 0);
        x.waits(1);
        x.asks(7, 0, 0);
        x.bars(7, 1);
        int[] last = {3, 1, 5, 99, 2, 3};
        for (int what = 0; what < 6; what++) {
            int w = what;
            e.asked(x, "about(7, " + w + ")", last[w], () -> x.about(7, w));
            e.asked(x, "about(6, " + w + ")", w == 0 ? 3 : 0, () -> x.about(6, w));
        }
        e.at("Promise 12", "BAD");
        e.badNumbers(x, new int[][] {{0, 7}, {0, 5}}, n -> x.about(n[0], n[1]));
        BadgeDoors y = Due.house(0, 1);
        e.badNumbers(y, new int[][] {{0, 0}, {0, 5}}, n -> y.about(n[0], n[1]));
    }

    private void note() {
        e.at("Promise 13", "Of the i-th NOTE of a DOOR (0 on): TIME (what 0), BADGE (1); NONE: not so many");
        BadgeDoors x = Due.house(8, 8);
        e.asked(x, "none at all", NONE, () -> x.note(7, 0, 0));
        x.online(7, 0);
        x.waits(30);
        x.asks(7, 7, 0);
        e.asked(x, "TIME of the first", 30, () -> x.note(7, 0, 0));
        e.asked(x, "BADGE of the first", 7, () -> x.note(7, 0, 1));
        e.asked(x, "not two", NONE, () -> x.note(7, 1, 0));
        for (int k = 1; k < 20; k++) {
            x.waits(1);
            x.asks(k % 7, 7, 0);
        }
        e.asked(x, "TIME of the last", 49, () -> x.note(7, 19, 0));
        e.asked(x, "BADGE of the last", 5, () -> x.note(7, 19, 1));
        e.asked(x, "not 21", NONE, () -> x.note(7, 20, 1));
        e.asked(x, "not so many at all", NONE, () -> x.note(7, MOST, 0));
        e.asked(x, "another one has none", NONE, () -> x.note(6, 0, 0));
        e.at("Promise 13", "BAD: i below 0, too");
        e.badNumbers(x, new int[][] {{0, 7}, {0, MOST}, {0, 1}}, n -> x.note(n[0], n[1], n[2]));
        e.refused(x, "BAD before NONE", BAD, () -> x.note(7, 20, 2));
        BadgeDoors y = Due.house(1, 0);
        e.badNumbers(y, new int[][] {{0, 0}}, n -> y.note(n[0], 0, 0));
    }

    private void inside() {
        e.at("Promise 14", "How many BADGES are IN an AREA (what 0), which (1, bits)");
        BadgeDoors x = Due.house(1, 0);
        e.asked(x, "none", 0, () -> x.inside(0, 0));
        for (int b = 0; b < 8; b++) {
            x.badge(0);
        }
        e.asked(x, "all OUTSIDE", 8, () -> x.inside(0, 0));
        e.asked(x, "all OUTSIDE, as bits", 255, () -> x.inside(0, 1));
        e.asked(x, "none in the last", 0, () -> x.inside(5, 1));
        x.asks(7, 0, 0);
        x.asks(0, 0, 0);
        e.asked(x, "the first and the last", 2, () -> x.inside(1, 0));
        e.asked(x, "the first and the last, as bits", 129, () -> x.inside(1, 1));
        e.asked(x, "the others", 126, () -> x.inside(0, 1));
        for (int b = 1; b < 7; b++) {
            x.asks(b, 0, 0);
        }
        e.asked(x, "all", 255, () -> x.inside(1, 1));
        e.asked(x, "none OUTSIDE", 0, () -> x.inside(0, 0));
        e.at("Promise 14", "BAD");
        e.badNumbers(x, new int[][] {{0, 5}, {0, 1}}, n -> x.inside(n[0], n[1]));
    }

    private void muster() {
        e.at("Promise 15", "MUSTER but for an AREA (0: none more), as bits");
        BadgeDoors x = Due.house(1, 8);
        x.door(0, 5, 0, 0);
        e.asked(x, "all OUTSIDE", 0, () -> x.muster(0));
        for (int b = 0; b < 8; b++) {
            x.asks(b, b == 7 ? 1 : 0, 0);
        }
        e.asked(x, "all", 255, () -> x.muster(0));
        e.asked(x, "but for 1", 128, () -> x.muster(1));
        e.asked(x, "but for 5", 127, () -> x.muster(5));
        e.asked(x, "but for one where none is", 255, () -> x.muster(4));
        e.at("Promise 15", "BAD");
        e.badNumbers(x, new int[][] {{0, 5}}, n -> x.muster(n[0]));
    }

    private void way() {
        e.at("Promise 16", "WAY of a BADGE from a to c: how many DOORS (i NONE), the i-th; -5: not so many, there is none");
        BadgeDoors x = new BadgeDoors();
        x.badge(0);
        e.asked(x, "no DOORS", NO_WAY, () -> x.way(0, 0, 5, NONE));
        e.asked(x, "no DOORS", NO_WAY, () -> x.way(0, 0, 5, 0));
        for (int area = 0; area < 5; area++) {
            x.door(area, area + 1, 0, 0);
        }
        e.asked(x, "all of them", 5, () -> x.way(0, 0, 5, NONE));
        e.asked(x, "the first", 0, () -> x.way(0, 0, 5, 0));
        e.asked(x, "the last", 4, () -> x.way(0, 0, 5, 4));
        e.asked(x, "not six", NO_WAY, () -> x.way(0, 0, 5, 5));
        e.asked(x, "not so many at all", NO_WAY, () -> x.way(0, 0, 5, MOST));
        e.asked(x, "one", 1, () -> x.way(0, 4, 5, NONE));
        e.asked(x, "it", 4, () -> x.way(0, 4, 5, 0));
        e.asked(x, "not two", NO_WAY, () -> x.way(0, 4, 5, 1));
        e.asked(x, "none the other way", NO_WAY, () -> x.way(0, 5, 4, NONE));
        e.asked(x, "none the other way", NO_WAY, () -> x.way(0, 5, 4, 0));
        e.is("-5 is no refusal", x.told(0) + x.told(1) + x.told(2), 0);
    }

    private void wayRefused() {
        e.at("Promise 16", "BAD: a alike c, i below -1, too");
        BadgeDoors x = Due.house(1, 8);
        for (int area = 0; area < 6; area++) {
            int a = area;
            e.refused(x, "alike " + a, BAD, () -> x.way(0, a, a, NONE));
        }
        e.badNumbers(x, new int[][] {{0, 7}, {0, 5}, {1, 5}, {NONE, MOST}}, n -> x.way(n[0], n[1], n[2], n[3]));
        e.refused(x, "c -1", BAD, () -> x.way(0, 5, -1, NONE));
        BadgeDoors y = Due.house(1, 1);
        e.badNumbers(y, new int[][] {{0, 0}}, n -> y.way(n[0], 0, 1, NONE));
    }

    private void passed() {
        e.at("Promise 17", "Of the i-th two (0 on) that PASSED: the BADGE (what 0), the DOOR (1), how often (2); NONE: not so many");
        BadgeDoors x = Due.house(8, 8);
        e.asked(x, "none at all", NONE, () -> x.passed(0, 2));
        x.asks(7, 7, 0);
        e.asked(x, "the first's BADGE", 7, () -> x.passed(0, 0));
        e.asked(x, "the first's DOOR", 7, () -> x.passed(0, 1));
        e.asked(x, "how often", 1, () -> x.passed(0, 2));
        e.asked(x, "not two", NONE, () -> x.passed(1, 0));
        for (int k = 0; k < 64; k++) {
            x.asks(k / 8, k % 8, 0);
        }
        e.asked(x, "how often", 2, () -> x.passed(0, 2));
        e.asked(x, "the last's BADGE", 7, () -> x.passed(63, 0));
        e.asked(x, "the last's DOOR", 6, () -> x.passed(63, 1));
        e.asked(x, "how often", 1, () -> x.passed(63, 2));
        e.asked(x, "not 65", NONE, () -> x.passed(64, 0));
        e.asked(x, "not so many at all", NONE, () -> x.passed(MOST, 2));
        e.at("Promise 17", "BAD: i below 0, too");
        e.badNumbers(x, new int[][] {{0, MOST}, {0, 2}}, n -> x.passed(n[0], n[1]));
        e.refused(x, "BAD before NONE", BAD, () -> x.passed(64, 3));
    }

    private void count() {
        e.at("Promise 18", "TIME (what 0), HOUR (1), FLAWS (2), LATE ones (3), ALARMS (4), how often LET or passed (5), how often not by 1 to 5 (6 to 10), how many twos PASSED (11)");
        BadgeDoors x = new BadgeDoors();
        Due.read(x, "door0 1 0 0;door1 2 0 0;door0 1 3 3;badge0;badge0;badge0;bar2;off1;ask0 1;wait25;");
        x.sets(0, 0, 1);
        x.locks(0, 2);
        twiceOrMore(x, 0, 0, 0, 3);
        twiceOrMore(x, 0, 2, 1, 2);
        twiceOrMore(x, 2, 0, 2, 3);
        x.locks(0, NONE);
        twiceOrMore(x, 0, 2, 3, 4);
        x.sets(0, 0, 2);
        twiceOrMore(x, 0, 0, 4, 5);
        x.sets(0, 1, 1);
        twiceOrMore(x, 1, 0, 5, 6);
        x.online(1, 1);
        x.asks(1, 1, 1);
        int[] want = {25, 1, 2, 1, 1, 5, 2, 3, 4, 5, 6, 3};
        for (int what = 0; what < 12; what++) {
            int w = what;
            e.asked(x, "count(" + w + ")", want[w], () -> x.count(w));
        }
        e.at("Promise 18", "BAD");
        e.badNumbers(x, new int[][] {{0, 11}}, n -> x.count(n[0]));
    }

    private void twiceOrMore(BadgeDoors x, int b, int d, int want, int times) {
        for (int k = 0; k < times; k++) {
            e.is("asks(" + b + ", " + d + ")", x.asks(b, d, 0), want);
        }
    }
}
