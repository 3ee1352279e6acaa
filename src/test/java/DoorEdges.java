/** The edges that promises 1 to 8 name: a new object, door, sets, locks, badge, levels, bars, online. */
final class DoorEdges {
    private static final int BAD = BadgeDoors.BAD, NONE = BadgeDoors.NONE, NO = BadgeDoors.NO, FULL = BadgeDoors.FULL;

    private final Edges e;

    DoorEdges(Edges edges) {
        e = edges;
    }

    void look() {
        newObject();
        newObjectRefuses();
        door();
        doorRefused();
        sets();
        locks();
        locksRefused();
        badge();
        levels();
        bars();
        online();
        onlineRefused();
    }

    private void newObject() {
        e.at("Promise 1", "As told; no DOORS, no BADGES");
        BadgeDoors x = new BadgeDoors();
        for (int what = 0; what < 7; what++) {
            int w = what;
            e.asked(x, "told(" + w + ")", 0, () -> x.told(w));
        }
        for (int what = 0; what < 12; what++) {
            int w = what;
            e.asked(x, "count(" + w + ")", 0, () -> x.count(w));
        }
        for (int area = 0; area < 6; area++) {
            int a = area;
            e.asked(x, "how many in " + a, 0, () -> x.inside(a, 0));
            e.asked(x, "which in " + a, 0, () -> x.inside(a, 1));
            e.asked(x, "muster(" + a + ")", 0, () -> x.muster(a));
        }
        e.asked(x, "PASSED", NONE, () -> x.passed(0, 0));
        e.asked(x, "an empty TEXT", -10, x::reads);
        e.asked(x, "an empty TEXT", 0, x::clear);
    }

    private void newObjectRefuses() {
        BadgeDoors x = new BadgeDoors();
        e.refused(x, "no DOOR to set", BAD, () -> x.sets(0, 0, 0));
        e.refused(x, "no DOOR to lock", BAD, () -> x.locks(0, NONE));
        e.refused(x, "no BADGE to change", BAD, () -> x.levels(0, 0));
        e.refused(x, "no BADGE to bar", BAD, () -> x.bars(0, 1));
        e.refused(x, "no DOOR to go off", BAD, () -> x.online(0, 0));
        e.refused(x, "nobody asks", BAD, () -> x.asks(0, 0, 0));
        e.refused(x, "of no DOOR", BAD, () -> x.of(0, 0));
        e.refused(x, "about no BADGE", BAD, () -> x.about(0, 0));
        e.refused(x, "NOTES of no DOOR", BAD, () -> x.note(0, 0, 0));
        e.refused(x, "WAY of no BADGE", BAD, () -> x.way(0, 0, 1, NONE));
        e.refused(x, "no STATE", NO, x::back);
        BadgeDoors y = new BadgeDoors();
        e.is("another object knows nothing of it", y.told(0), 0);
    }

    private void door() {
        e.at("Promise 2", "A DOOR: its number");
        BadgeDoors x = new BadgeDoors();
        int[] least = {0, 1, 0, 0, 0, 0, NONE, 1, 0, NONE, 0};
        int[] most = {5, 4, 3, 3, 0, 0, NONE, 1, 0, NONE, 0};
        e.is("the least numbers", x.door(0, 1, 0, 0), 0);
        e.is("the most", x.door(5, 4, 3, 3), 1);
        for (int what = 0; what < 11; what++) {
            e.is("of(0, " + what + ")", x.of(0, what), least[what]);
            e.is("of(1, " + what + ")", x.of(1, what), most[what]);
        }
        e.at("Promise 2", "S");
        e.leavesState(x, "the third", 2, () -> x.door(2, 0, 1, 2));
    }

    private void doorRefused() {
        e.at("Promise 2", "BAD: FROM alike TO, too; FULL: 8");
        BadgeDoors x = Due.house(7, 1);
        e.badNumbers(x, new int[][] {{0, 5}, {1, 5}, {0, 3}, {0, 3}}, n -> x.door(n[0], n[1], n[2], n[3]));
        e.refused(x, "TO -1", BAD, () -> x.door(5, -1, 0, 0));
        for (int area = 0; area < 6; area++) {
            int a = area;
            e.refused(x, "alike " + a, BAD, () -> x.door(a, a, 0, 0));
        }
        e.is("an eighth", x.door(5, 0, 0, 0), 7);
        e.refused(x, "a ninth", FULL, () -> x.door(0, 1, 0, 0));
        e.refused(x, "a ninth, BAD", BAD, () -> x.door(0, 1, 0, 4));
        x.back();
        e.is("an eighth again", x.door(0, 1, 0, 0), 7);
    }

    private void sets() {
        e.at("Promise 3", "BACK (what 0), PAIR (1) of a DOOR becomes v: what it was");
        BadgeDoors x = Due.house(8, 0);
        e.is("BACK of the first", x.sets(0, 0, 2), 0);
        e.is("BACK of it again", x.sets(0, 0, 2), 2);
        e.is("BACK of it is none", x.sets(0, 0, 0), 2);
        e.is("BACK of the last", x.sets(7, 0, 1), 0);
        e.is("PAIR of the last", x.sets(7, 1, 1), 0);
        e.is("PAIR of it is none", x.sets(7, 1, 0), 1);
        e.is("BACK stays", x.of(7, 4), 1);
        e.is("another one's stays", x.of(6, 4) + x.of(6, 5), 0);
        e.at("Promise 3", "S");
        e.leavesState(x, "BACK", 0, () -> x.sets(3, 0, 2));
        e.leavesState(x, "PAIR as it was", 0, () -> x.sets(3, 1, 0));
        e.at("Promise 3", "BAD");
        e.badNumbers(x, new int[][] {{0, 7}, {0, 1}, {0, 2}}, n -> x.sets(n[0], n[1], n[2]));
        e.refused(x, "PAIR 2", BAD, () -> x.sets(0, 1, 2));
        e.refused(x, "PAIR -1", BAD, () -> x.sets(0, 1, -1));
        BadgeDoors y = Due.house(1, 0);
        e.badNumbers(y, new int[][] {{0, 0}}, n -> y.sets(n[0], 1, 0));
    }

    private void locks() {
        e.at("Promise 4", "Two DOORS are LOCKS of one another (what either had as LOCK has none then)");
        BadgeDoors x = Due.house(8, 0);
        e.is("neither had one", x.locks(0, 7), NONE);
        e.is("0 and 7", x.of(0, 6), 7);
        e.is("7 and 0", x.of(7, 6), 0);
        e.is("they had one another", x.locks(7, 0), 0);
        e.is("they have yet", 10 * x.of(0, 6) + x.of(7, 6), 70);
        x.locks(1, 2);
        e.is("both had another", x.locks(0, 1), 7);
        e.is("7 has none", x.of(7, 6), NONE);
        e.is("2 has none", x.of(2, 6), NONE);
        e.is("the second had another", x.locks(3, 1), NONE);
        e.is("0 has none", x.of(0, 6), NONE);
        e.is("3 and 1", 10 * x.of(1, 6) + x.of(3, 6), 31);
        e.at("Promise 4", "e NONE: d has none (nor what it had): what was d's (NONE: none)");
        e.is("of one that has", x.locks(1, NONE), 3);
        e.is("it has none", x.of(1, 6), NONE);
        e.is("nor what it had", x.of(3, 6), NONE);
        e.is("of one that has none", x.locks(1, NONE), NONE);
        e.is("no refusal", x.told(0) + x.told(1), 0);
        e.at("Promise 4", "S");
        e.leavesState(x, "two", NONE, () -> x.locks(4, 5));
        e.leavesState(x, "none as before", NONE, () -> x.locks(4, NONE));
    }

    private void locksRefused() {
        e.at("Promise 4", "BAD: alike, too");
        BadgeDoors x = Due.house(8, 0);
        for (int door = 0; door < 8; door++) {
            int d = door;
            e.refused(x, "alike " + d, BAD, () -> x.locks(d, d));
        }
        e.badNumbers(x, new int[][] {{0, 7}, {NONE, 7}}, n -> x.locks(n[0], n[1]));
        e.refused(x, "alike, and no DOOR", BAD, () -> x.locks(NONE, NONE));
        BadgeDoors y = Due.house(2, 0);
        y.locks(0, 1);
        e.refused(y, "e is not there yet", BAD, () -> y.locks(0, 2));
        e.refused(y, "d is not there yet", BAD, () -> y.locks(2, 0));
        e.is("they have yet", 10 * y.of(0, 6) + y.of(1, 6), 10);
    }

    private void badge() {
        e.at("Promise 5", "A BADGE: its number");
        BadgeDoors x = new BadgeDoors();
        x.waits(50);
        int[] most = {3, 0, 0, 0, 0, 0};
        e.is("the least", x.badge(0), 0);
        e.is("the most", x.badge(3), 1);
        for (int what = 0; what < 6; what++) {
            e.is("about(0, " + what + ")", x.about(0, what), 0);
            e.is("about(1, " + what + ")", x.about(1, what), most[what]);
        }
        e.at("Promise 5", "S");
        e.leavesState(x, "the third", 2, () -> x.badge(1));
        e.at("Promise 5", "BAD; FULL: 8");
        e.badNumbers(x, new int[][] {{0, 3}}, n -> x.badge(n[0]));
        for (int b = 2; b < 8; b++) {
            e.is("its number", x.badge(0), b);
        }
        e.refused(x, "a ninth", FULL, () -> x.badge(0));
        e.badNumbers(x, new int[][] {{0, 3}}, n -> x.badge(n[0]));
        x.back();
        e.is("an eighth again", x.badge(0), 7);
    }

    private void levels() {
        e.at("Promise 6", "LEVEL of a BADGE becomes v: what it was");
        BadgeDoors x = Due.house(0, 8);
        e.is("the first's becomes the most", x.levels(0, 3), 0);
        e.is("again", x.levels(0, 3), 3);
        e.is("and the least", x.levels(0, 0), 3);
        e.is("the last's", x.levels(7, 2), 0);
        e.is("it is so", x.about(7, 0), 2);
        e.is("another one's stays", x.about(6, 0), 0);
        e.at("Promise 6", "S");
        e.leavesState(x, "another", 2, () -> x.levels(7, 1));
        e.leavesState(x, "what it was", 2, () -> x.levels(7, 2));
        e.at("Promise 6", "BAD");
        e.badNumbers(x, new int[][] {{0, 7}, {0, 3}}, n -> x.levels(n[0], n[1]));
        BadgeDoors y = Due.house(0, 1);
        e.badNumbers(y, new int[][] {{0, 0}}, n -> y.levels(n[0], 1));
    }

    private void bars() {
        e.at("Promise 7", "A BADGE is BARRED (1) or not (0): what it was");
        BadgeDoors x = Due.house(0, 8);
        e.is("not, as at first", x.bars(0, 0), 0);
        e.is("BARRED", x.bars(0, 1), 0);
        e.is("BARRED again", x.bars(0, 1), 1);
        e.is("not", x.bars(0, 0), 1);
        e.is("the last", x.bars(7, 1), 0);
        e.is("it is so", x.about(7, 1), 1);
        e.is("another one is not", x.about(6, 1), 0);
        e.at("Promise 7", "S");
        e.leavesState(x, "BARRED", 0, () -> x.bars(3, 1));
        e.leavesState(x, "not, as it was", 0, () -> x.bars(3, 0));
        e.at("Promise 7", "BAD");
        e.badNumbers(x, new int[][] {{0, 7}, {0, 1}}, n -> x.bars(n[0], n[1]));
        BadgeDoors y = Due.house(0, 1);
        e.badNumbers(y, new int[][] {{0, 0}}, n -> y.bars(n[0], 1));
    }

    private void online() {
        e.at("Promise 8", "A DOOR is ONLINE (1; its NOTES are MERGED) or not (0; its COPY is taken): how many NOTES were MERGED");
        BadgeDoors x = Due.house(8, 2);
        e.is("off", x.online(7, 0), 0);
        e.is("no NOTES", x.online(7, 1), 0);
        x.online(7, 0);
        x.asks(0, 7, 0);
        e.is("one NOTE", x.online(7, 1), 1);
        e.is("it is MERGED", x.about(0, 2), 1);
        x.online(7, 0);
        x.online(0, 0);
        for (int k = 0; k < 21; k++) {
            x.asks(1, 7, 0);
            x.asks(0, 0, 0);
        }
        x.waits(1);
        x.asks(1, 1, 0);
        e.is("of 21, all of them LATE", x.online(7, 1), 20);
        e.is("LATE", x.count(3), 20);
        e.is("another DOOR keeps its own", x.of(0, 10), 20);
        e.is("of 21, none of them LATE", x.online(0, 1), 20);
        e.is("LATE", x.count(3), 20);
        e.at("Promise 8", "S");
        e.leavesState(x, "off", 0, () -> x.online(3, 0));
        x.online(3, 0);
        x.asks(0, 3, 0);
        e.leavesState(x, "on", 1, () -> x.online(3, 1));
        e.is("its NOTE again", x.of(3, 10), 1);
    }

    private void onlineRefused() {
        e.at("Promise 8", "BAD; NO: it is so");
        BadgeDoors x = Due.house(8, 1);
        e.badNumbers(x, new int[][] {{0, 7}, {0, 1}}, n -> x.online(n[0], n[1]));
        e.refused(x, "ONLINE at first", NO, () -> x.online(7, 1));
        x.online(7, 0);
        x.asks(0, 7, 0);
        x.bars(0, 1);
        e.refused(x, "not", NO, () -> x.online(7, 0));
        e.is("its NOTES stay", x.of(7, 10), 1);
        e.is("its COPY stays", x.asks(0, 7, 0), 0);
        x.online(7, 1);
        e.refused(x, "ONLINE", NO, () -> x.online(7, 1));
        BadgeDoors y = Due.house(1, 0);
        e.badNumbers(y, new int[][] {{0, 0}}, n -> y.online(n[0], 0));
    }
}
