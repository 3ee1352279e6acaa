/** Promises 1 to 8: a new object, door, sets, locks, badge, levels, bars, online. */
public final class DoorsAndBadgesTest {
    private static final Due due = new Due();

    public static void main(String[] args) {
        newObject();
        door();
        doorRefused();
        sets();
        locks();
        badge();
        levels();
        bars();
        onlineTakesACopy();
        onlineMerges();
        mergeLateAndFlaws();
        mergeLooksAtBackAsItIsThen();
        due.end();
    }

    private static void newObject() {
        BadgeDoors x = new BadgeDoors();
        for (int what = 0; what < 7; what++) {
            due.is("told(" + what + ") of a new one", x.told(what), 0);
        }
        for (int what = 0; what < 12; what++) {
            due.is("count(" + what + ") of a new one", x.count(what), 0);
        }
        for (int area = 0; area < 6; area++) {
            due.is("inside(" + area + ", 0)", x.inside(area, 0), 0);
            due.is("inside(" + area + ", 1)", x.inside(area, 1), 0);
            due.is("muster(" + area + ")", x.muster(area), 0);
        }
        long h = 2437;
        for (int k = 0; k < 7 + 12; k++) {
            h = 31 * h;
        }
        due.is("digest() of a new one", x.digest(), h);
    }

    private static void door() {
        BadgeDoors x = new BadgeDoors();
        due.is("door(0, 5, 0, 3)", x.door(0, 5, 0, 3), 0);
        due.is("door(5, 0, 3, 0)", x.door(5, 0, 3, 0), 1);
        int[] first = {0, 5, 0, 3, 0, 0, -1, 1, 0, -1, 0};
        int[] second = {5, 0, 3, 0, 0, 0, -1, 1, 0, -1, 0};
        for (int what = 0; what < 11; what++) {
            due.is("of(0, " + what + ")", x.of(0, what), first[what]);
            due.is("of(1, " + what + ")", x.of(1, what), second[what]);
        }
        due.is("STATES after two", x.told(6), 2);
        due.is("DOORS after two", x.told(4), 2);
    }

    private static void doorRefused() {
        BadgeDoors x = new BadgeDoors();
        int[][] wrong = {{-1, 0, 0, 0}, {6, 0, 0, 0}, {0, -1, 0, 0}, {0, 6, 0, 0}, {3, 3, 0, 0},
            {0, 1, -1, 0}, {0, 1, 4, 0}, {0, 1, 0, -1}, {0, 1, 0, 4}};
        for (int[] w : wrong) {
            due.is("a wrong door", x.door(w[0], w[1], w[2], w[3]), BadgeDoors.BAD);
        }
        due.is("BAD", x.told(0), wrong.length);
        due.is("no STATE by those", x.told(6), 0);
        for (int d = 0; d < 8; d++) {
            due.is("door " + d, x.door(0, 1, 0, 0), d);
        }
        due.is("a ninth", x.door(0, 1, 0, 0), BadgeDoors.FULL);
        due.is("a ninth, wrong: BAD comes first", x.door(0, 0, 0, 0), BadgeDoors.BAD);
        due.is("FULL", x.told(2), 1);
    }

    private static void sets() {
        BadgeDoors x = new BadgeDoors();
        due.is("no such DOOR", x.sets(0, 0, 0), BadgeDoors.BAD);
        x.door(0, 1, 0, 0);
        due.is("BACK 2", x.sets(0, 0, 2), 0);
        due.is("BACK 1", x.sets(0, 0, 1), 2);
        due.is("PAIR 1", x.sets(0, 1, 1), 0);
        due.is("PAIR 1 again", x.sets(0, 1, 1), 1);
        due.is("of BACK", x.of(0, 4), 1);
        due.is("of PAIR", x.of(0, 5), 1);
        due.is("BACK 3", x.sets(0, 0, 3), BadgeDoors.BAD);
        due.is("BACK -1", x.sets(0, 0, -1), BadgeDoors.BAD);
        due.is("PAIR 2", x.sets(0, 1, 2), BadgeDoors.BAD);
        due.is("PAIR -1", x.sets(0, 1, -1), BadgeDoors.BAD);
        due.is("what 2", x.sets(0, 2, 0), BadgeDoors.BAD);
        due.is("what -1", x.sets(0, -1, 0), BadgeDoors.BAD);
        due.is("DOOR -1", x.sets(-1, 0, 0), BadgeDoors.BAD);
        due.is("DOOR 1", x.sets(1, 0, 0), BadgeDoors.BAD);
        due.is("a STATE too where nothing changed", x.told(6), 4);
        due.is("back once", x.back(), 3);
        due.is("PAIR after it", x.of(0, 5), 1);
        x.back();
        due.is("PAIR after two", x.of(0, 5), 0);
    }

    private static void locks() {
        BadgeDoors x = new BadgeDoors();
        for (int d = 0; d < 5; d++) {
            x.door(0, 1, 0, 0);
        }
        due.is("locks(0, 1)", x.locks(0, 1), BadgeDoors.NONE);
        due.is("of(0, 6)", x.of(0, 6), 1);
        due.is("of(1, 6)", x.of(1, 6), 0);
        due.is("locks(0, 1) again", x.locks(0, 1), 1);
        due.is("of(0, 6) again", x.of(0, 6), 1);
        due.is("of(1, 6) again", x.of(1, 6), 0);
        x.locks(2, 3);
        due.is("locks(1, 2): both had one", x.locks(1, 2), 0);
        due.is("of(0, 6): none", x.of(0, 6), BadgeDoors.NONE);
        due.is("of(3, 6): none", x.of(3, 6), BadgeDoors.NONE);
        due.is("of(1, 6)", x.of(1, 6), 2);
        due.is("of(2, 6)", x.of(2, 6), 1);
        due.is("locks(2, NONE)", x.locks(2, BadgeDoors.NONE), 1);
        due.is("of(1, 6): none", x.of(1, 6), BadgeDoors.NONE);
        due.is("of(2, 6): none", x.of(2, 6), BadgeDoors.NONE);
        due.is("locks(2, NONE) again", x.locks(2, BadgeDoors.NONE), BadgeDoors.NONE);
        due.is("NO is no refusal there", x.told(1), 0);
        due.is("alike", x.locks(2, 2), BadgeDoors.BAD);
        due.is("e 5", x.locks(2, 5), BadgeDoors.BAD);
        due.is("e -2", x.locks(2, -2), BadgeDoors.BAD);
        due.is("d 5", x.locks(5, 2), BadgeDoors.BAD);
        due.is("d -1, e NONE", x.locks(-1, -1), BadgeDoors.BAD);
    }

    private static void badge() {
        BadgeDoors x = new BadgeDoors();
        due.is("badge(-1)", x.badge(-1), BadgeDoors.BAD);
        due.is("badge(4)", x.badge(4), BadgeDoors.BAD);
        x.waits(30);
        for (int b = 0; b < 8; b++) {
            due.is("badge " + b, x.badge(b % 4), b);
        }
        for (int b = 0; b < 8; b++) {
            due.is("about(" + b + ", 0)", x.about(b, 0), b % 4);
            for (int what = 1; what < 6; what++) {
                due.is("about(" + b + ", " + what + ")", x.about(b, what), 0);
            }
        }
        due.is("a ninth", x.badge(0), BadgeDoors.FULL);
        due.is("a ninth, wrong", x.badge(4), BadgeDoors.BAD);
        due.is("BADGES", x.told(5), 8);
        due.is("all outside", x.inside(0, 1), 255);
        due.is("back", x.back(), 3);
        due.is("BADGES after it", x.told(5), 7);
        due.is("about(7, 0)", x.about(7, 0), BadgeDoors.BAD);
    }

    private static void levels() {
        BadgeDoors x = new BadgeDoors();
        due.is("no such", x.levels(0, 0), BadgeDoors.BAD);
        x.badge(2);
        due.is("levels(0, 3)", x.levels(0, 3), 2);
        due.is("levels(0, 0)", x.levels(0, 0), 3);
        due.is("about", x.about(0, 0), 0);
        due.is("levels(0, 4)", x.levels(0, 4), BadgeDoors.BAD);
        due.is("levels(0, -1)", x.levels(0, -1), BadgeDoors.BAD);
        due.is("levels(1, 0)", x.levels(1, 0), BadgeDoors.BAD);
        due.is("levels(-1, 0)", x.levels(-1, 0), BadgeDoors.BAD);
        due.is("STATES", x.told(6), 3);
        x.back();
        due.is("about after back", x.about(0, 0), 3);
    }

    private static void bars() {
        BadgeDoors x = new BadgeDoors();
        due.is("no such", x.bars(0, 0), BadgeDoors.BAD);
        x.badge(2);
        due.is("bars(0, 1)", x.bars(0, 1), 0);
        due.is("bars(0, 1) again", x.bars(0, 1), 1);
        due.is("about", x.about(0, 1), 1);
        due.is("bars(0, 0)", x.bars(0, 0), 1);
        due.is("about", x.about(0, 1), 0);
        due.is("bars(0, 2)", x.bars(0, 2), BadgeDoors.BAD);
        due.is("bars(0, -1)", x.bars(0, -1), BadgeDoors.BAD);
        due.is("bars(1, 0)", x.bars(1, 0), BadgeDoors.BAD);
        due.is("STATES", x.told(6), 4);
    }

    private static void onlineTakesACopy() {
        BadgeDoors x = new BadgeDoors();
        x.door(0, 1, 2, 2);
        x.door(0, 1, 2, 2);
        x.badge(2);
        x.badge(1);
        x.badge(2);
        x.bars(2, 1);
        due.is("it is so", x.online(0, 1), BadgeDoors.NO);
        due.is("off", x.online(0, 0), 0);
        due.is("it is so", x.online(0, 0), BadgeDoors.NO);
        due.is("NO twice", x.told(1), 2);
        due.is("is 2", x.online(0, 2), BadgeDoors.BAD);
        due.is("is -1", x.online(0, -1), BadgeDoors.BAD);
        due.is("DOOR 2", x.online(2, 0), BadgeDoors.BAD);
        due.is("of(0, 7)", x.of(0, 7), 0);
        due.is("of(1, 7)", x.of(1, 7), 1);
        x.levels(0, 0);
        x.levels(1, 3);
        x.bars(1, 0);
        x.bars(2, 0);
        x.badge(3);
        due.is("LEVEL was enough", x.asks(0, 0, 0), 0);
        due.is("LEVEL was not enough", x.asks(1, 0, 0), 3);
        due.is("it was BARRED", x.asks(2, 0, 0), 2);
        due.is("it came later", x.asks(3, 0, 0), 2);
        due.is("the house knows: LOW", x.asks(0, 1, 0), 3);
        due.is("the house knows: LET", x.asks(1, 1, 0), 0);
        due.is("the house knows: not BARRED", x.asks(2, 1, 0), 0);
        due.is("the house knows: it came", x.asks(3, 1, 0), 0);
        x.online(0, 1);
        due.is("off again", x.online(0, 0), 0);
        due.is("a new COPY", x.asks(3, 0, 0), 0);
        due.is("a new COPY", x.asks(0, 0, 0), 3);
    }

    private static void onlineMerges() {
        BadgeDoors x = new BadgeDoors();
        x.door(0, 1, 0, 0);
        x.door(1, 2, 0, 0);
        x.badge(0);
        x.badge(0);
        x.online(0, 0);
        x.online(1, 0);
        x.waits(5);
        x.asks(0, 0, 0);
        x.waits(5);
        x.asks(0, 1, 0);
        x.asks(1, 0, 0);
        due.is("IN stays", x.about(0, 2), 0);
        due.is("SINCE stays", x.about(0, 3), 0);
        due.is("NOTES of 0", x.of(0, 10), 2);
        x.waits(1);
        due.is("merged", x.online(1, 1), 1);
        due.is("IN by the second", x.about(0, 2), 2);
        due.is("SINCE by the second", x.about(0, 3), 10);
        due.is("merged", x.online(0, 1), 2);
        due.is("the first was LATE", x.about(0, 2), 2);
        due.is("LATE", x.count(3), 1);
        due.is("the other BADGE", x.about(1, 2), 1);
        due.is("its SINCE", x.about(1, 3), 10);
        due.is("it has none then", x.of(0, 10), 0);
        due.is("none to merge", x.online(0, 0), 0);
        due.is("none to merge", x.online(0, 1), 0);
    }

    private static void mergeLateAndFlaws() {
        BadgeDoors x = new BadgeDoors();
        x.door(0, 1, 0, 0);
        x.door(1, 2, 0, 0);
        x.badge(0);
        x.sets(0, 0, 1);
        x.sets(1, 0, 2);
        x.online(1, 0);
        due.is("HARD is not looked at", x.asks(0, 1, 0), 0);
        due.is("no FLAW yet", x.count(2), 0);
        due.is("at the same TIME", x.asks(0, 0, 0), 0);
        due.is("merged", x.online(1, 1), 1);
        due.is("SINCE alike is not LATE", x.count(3), 0);
        due.is("IN was FROM: no FLAW", x.count(2), 0);
        due.is("IN", x.about(0, 2), 2);
        x.online(0, 0);
        x.asks(0, 0, 0);
        x.asks(0, 0, 0);
        x.online(0, 1);
        due.is("twice in: two FLAWS", x.count(2), 2);
        due.is("IN", x.about(0, 2), 1);
        due.is("merging opens no DOOR", openAfterMerging(), 0);
    }

    private static int openAfterMerging() {
        BadgeDoors x = new BadgeDoors();
        x.door(0, 1, 0, 0);
        x.badge(0);
        x.online(0, 0);
        x.asks(0, 0, 0);
        x.waits(1);
        x.online(0, 1);
        return x.of(0, 8);
    }

    private static void mergeLooksAtBackAsItIsThen() {
        BadgeDoors x = new BadgeDoors();
        x.door(1, 2, 0, 0);
        x.badge(0);
        x.online(0, 0);
        x.asks(0, 0, 0);
        x.sets(0, 0, 1);
        x.online(0, 1);
        due.is("a FLAW by BACK as it is", x.count(2), 1);
    }
}
