/** Promises 9 to 18: asks, waits, of, about, note, inside, muster, way, passed, count. */
public final class HappeningsTest {
    private static final Due due = new Due();

    public static void main(String[] args) {
        asksByLevelAndHour();
        asksInOrderOfReasons();
        asksShut();
        asksAWayOut();
        asksBack();
        asksPair();
        pairWaitsAtOneTime();
        pairIsLetUnseen();
        pairSetAndUnset();
        duress();
        offlineAsks();
        asksRefused();
        waits();
        of();
        about();
        note();
        insideAndMuster();
        way();
        wayByHourAndBars();
        wayOfLikeOnes();
        passed();
        count();
        due.end();
    }

    private static void asksByLevelAndHour() {
        BadgeDoors x = new BadgeDoors();
        x.door(0, 1, 1, 2);
        x.badge(1);
        for (int hour = 1; hour <= 48; hour++) {
            due.is("waits", x.waits(1), hour % 24);
            boolean day = hour % 24 >= 8 && hour % 24 <= 17;
            due.is("asks at " + hour, x.asks(0, 0, 0), day ? 0 : 3);
        }
        due.is("LOW ones", x.count(8), 28);
        due.is("LET ones", x.count(5), 20);
    }

    private static void asksInOrderOfReasons() {
        BadgeDoors x = new BadgeDoors();
        x.door(1, 2, 3, 3);
        x.door(0, 1, 0, 0);
        x.badge(0);
        x.badge(0);
        x.bars(0, 1);
        x.sets(0, 0, 2);
        x.sets(0, 1, 1);
        x.locks(0, 1);
        x.asks(1, 1, 0);
        due.is("SHUT first", x.asks(0, 0, 0), 1);
        x.waits(1);
        due.is("then BARRED", x.asks(0, 0, 0), 2);
        x.bars(0, 0);
        due.is("then LOW", x.asks(0, 0, 0), 3);
        x.levels(0, 3);
        due.is("then TWICE", x.asks(0, 0, 0), 4);
        due.is("none WAITS yet", x.of(0, 9), BadgeDoors.NONE);
        x.sets(0, 0, 1);
        due.is("then ALONE", x.asks(0, 0, 0), 5);
        due.is("it WAITS", x.of(0, 9), 0);
        for (int what = 6; what <= 10; what++) {
            due.is("count(" + what + ")", x.count(what), 1);
        }
        due.is("nobody moved", x.about(0, 2), 0);
    }

    private static void asksShut() {
        BadgeDoors x = new BadgeDoors();
        x.door(0, 1, 0, 0);
        x.door(1, 0, 0, 0);
        x.badge(0);
        x.badge(0);
        x.locks(0, 1);
        due.is("LET", x.asks(0, 0, 0), 0);
        due.is("OPEN", x.of(0, 8), 1);
        due.is("the same DOOR again", x.asks(1, 0, 0), 0);
        due.is("SHUT, though a way out", x.asks(0, 1, 0), 1);
        x.locks(0, -1);
        due.is("no LOCK any more", x.asks(0, 1, 0), 0);
        x.locks(0, 1);
        due.is("both OPEN: SHUT", x.asks(0, 0, 0), 1);
        due.is("both OPEN: SHUT", x.asks(1, 1, 0), 1);
        x.waits(24);
        due.is("not OPEN a day later", x.of(0, 8), 0);
        x.online(0, 0);
        due.is("passes", x.asks(0, 0, 0), 0);
        due.is("OPEN by passing", x.asks(1, 1, 0), 1);
        x.waits(1);
        due.is("LET", x.asks(1, 1, 0), 0);
        due.is("SHUT off the house, too", x.asks(0, 0, 0), 1);
        due.is("SHUT ones", x.count(6), 5);
    }

    private static void asksAWayOut() {
        BadgeDoors x = new BadgeDoors();
        x.door(2, 0, 3, 3);
        x.badge(0);
        x.bars(0, 1);
        x.sets(0, 0, 2);
        x.sets(0, 1, 1);
        x.waits(3);
        due.is("LET, whatever is set", x.asks(0, 0, 0), 0);
        due.is("but a FLAW", x.count(2), 1);
        due.is("none WAITS", x.of(0, 9), BadgeDoors.NONE);
        due.is("SINCE", x.about(0, 3), 3);
        x.sets(0, 0, 0);
        x.asks(0, 0, 0);
        due.is("no FLAW without BACK", x.count(2), 1);
        x.online(0, 0);
        due.is("passes", x.asks(0, 0, 0), 0);
        x.badge(0);
        due.is("one that came later passes", x.asks(1, 0, 0), 0);
        due.is("NOTES", x.of(0, 10), 2);
    }

    private static void asksBack() {
        BadgeDoors x = new BadgeDoors();
        x.door(0, 1, 0, 0);
        x.badge(0);
        x.sets(0, 0, 2);
        due.is("LET", x.asks(0, 0, 0), 0);
        due.is("TWICE", x.asks(0, 0, 0), 4);
        due.is("no FLAW", x.count(2), 0);
        x.sets(0, 0, 1);
        due.is("SOFT lets", x.asks(0, 0, 0), 0);
        due.is("and notes a FLAW", x.count(2), 1);
        x.sets(0, 0, 0);
        due.is("without BACK", x.asks(0, 0, 0), 0);
        due.is("no FLAW", x.count(2), 1);
    }

    private static void asksPair() {
        BadgeDoors x = new BadgeDoors();
        x.door(0, 1, 0, 0);
        x.badge(0);
        x.badge(0);
        x.badge(0);
        x.sets(0, 1, 1);
        due.is("ALONE", x.asks(2, 0, 0), 5);
        due.is("ALONE still", x.asks(2, 0, 0), 5);
        due.is("not OPEN", x.of(0, 8), 0);
        due.is("with another", x.asks(1, 0, 0), 0);
        due.is("both IN", x.inside(1, 1), 6);
        due.is("two were LET", x.count(5), 2);
        due.is("the one that asked first", x.passed(0, 0), 1);
        due.is("then the one that waited", x.passed(1, 0), 2);
        due.is("none WAITS", x.of(0, 9), BadgeDoors.NONE);
        due.is("ALONE again", x.asks(0, 0, 0), 5);
        due.is("WAITS", x.of(0, 9), 0);
        due.is("ALONE ones", x.count(10), 3);
        due.is("how often of 2", x.about(2, 5), 1);
    }

    private static void pairWaitsAtOneTime() {
        BadgeDoors x = new BadgeDoors();
        x.door(0, 1, 0, 0);
        x.badge(0);
        x.badge(0);
        x.sets(0, 1, 1);
        x.asks(0, 0, 0);
        x.waits(1);
        due.is("TIME went by", x.of(0, 9), BadgeDoors.NONE);
        due.is("ALONE", x.asks(1, 0, 0), 5);
        due.is("WAITS", x.of(0, 9), 1);
        x.back();
        x.back();
        due.is("back: WAITS", x.of(0, 9), 0);
        due.is("with it", x.asks(1, 0, 0), 0);
    }

    private static void pairIsLetUnseen() {
        BadgeDoors x = new BadgeDoors();
        x.door(0, 1, 0, 0);
        x.door(0, 2, 0, 0);
        x.badge(0);
        x.badge(0);
        x.sets(0, 0, 2);
        x.sets(0, 1, 1);
        x.asks(0, 0, 0);
        x.asks(0, 1, 0);
        x.bars(0, 1);
        due.is("LET", x.asks(1, 0, 0), 0);
        due.is("the one that WAITS, too", x.about(0, 2), 1);
        due.is("a FLAW, as it was elsewhere", x.count(2), 1);
    }

    private static void pairSetAndUnset() {
        BadgeDoors x = new BadgeDoors();
        x.door(0, 1, 0, 0);
        x.badge(0);
        x.badge(0);
        x.sets(0, 1, 1);
        x.asks(0, 0, 0);
        x.sets(0, 1, 0);
        due.is("without PAIR", x.asks(1, 0, 0), 0);
        due.is("the other stays", x.about(0, 2), 0);
        due.is("and WAITS", x.of(0, 9), 0);
        x.sets(0, 1, 1);
        due.is("with PAIR", x.asks(1, 0, 0), 0);
        due.is("the other is let", x.about(0, 2), 1);
    }

    private static void duress() {
        BadgeDoors x = new BadgeDoors();
        x.door(0, 1, 0, 0);
        x.door(0, 1, 3, 3);
        x.badge(0);
        x.badge(0);
        due.is("LET", x.asks(0, 0, 1), 0);
        due.is("not LET", x.asks(0, 1, 1), 3);
        due.is("ALARMS", x.count(4), 1);
        due.is("ALARMS of 0", x.about(0, 4), 1);
        x.sets(0, 1, 1);
        due.is("ALONE", x.asks(0, 0, 1), 5);
        due.is("no ALARM", x.count(4), 1);
        due.is("with another", x.asks(1, 0, 0), 0);
        due.is("no ALARM of the one that waited", x.count(4), 1);
        x.asks(1, 0, 0);
        due.is("with another", x.asks(0, 0, 1), 0);
        due.is("ALARMS", x.count(4), 2);
        due.is("of the one that asks", x.about(0, 4), 2);
        due.is("not of the other", x.about(1, 4), 0);
        x.online(0, 0);
        due.is("passes", x.asks(1, 0, 1), 0);
        due.is("ALARMS", x.about(1, 4), 1);
        due.is("ALARMS", x.count(4), 3);
    }

    private static void offlineAsks() {
        BadgeDoors x = new BadgeDoors();
        x.door(1, 2, 1, 2);
        x.badge(1);
        x.badge(1);
        x.sets(0, 0, 2);
        x.sets(0, 1, 1);
        x.online(0, 0);
        due.is("LOW at night", x.asks(0, 0, 0), 3);
        x.waits(8);
        due.is("BACK and PAIR are not looked at", x.asks(0, 0, 0), 0);
        due.is("OPEN", x.of(0, 8), 1);
        due.is("IN stays", x.about(0, 2), 0);
        due.is("no FLAW yet", x.count(2), 0);
        due.is("PASSED", x.passed(0, 2), 1);
        due.is("how often", x.about(0, 5), 1);
        due.is("none WAITS", x.of(0, 9), BadgeDoors.NONE);
        for (int k = 1; k < 25; k++) {
            due.is("passes", x.asks(1, 0, 0), 0);
        }
        due.is("20 NOTES", x.of(0, 10), 20);
        due.is("PASSED more than noted", x.count(5), 25);
        due.is("merged", x.online(0, 1), 20);
        due.is("FLAWS", x.count(2), 20);
    }

    private static void asksRefused() {
        BadgeDoors x = new BadgeDoors();
        due.is("nobody, nowhere", x.asks(0, 0, 0), BadgeDoors.BAD);
        x.door(0, 1, 0, 0);
        due.is("nobody", x.asks(0, 0, 0), BadgeDoors.BAD);
        x.badge(0);
        due.is("BADGE -1", x.asks(-1, 0, 0), BadgeDoors.BAD);
        due.is("BADGE 1", x.asks(1, 0, 0), BadgeDoors.BAD);
        due.is("DOOR -1", x.asks(0, -1, 0), BadgeDoors.BAD);
        due.is("DOOR 1", x.asks(0, 1, 0), BadgeDoors.BAD);
        due.is("DURESS 2", x.asks(0, 0, 2), BadgeDoors.BAD);
        due.is("DURESS -1", x.asks(0, 0, -1), BadgeDoors.BAD);
        due.is("BAD", x.told(0), 8);
        due.is("STATES", x.told(6), 2);
        due.is("a STATE by one not LET, too", x.levels(0, 0) + x.told(6), 3);
    }

    private static void waits() {
        BadgeDoors x = new BadgeDoors();
        due.is("waits(99)", x.waits(99), 3);
        due.is("waits(1)", x.waits(1), 4);
        due.is("TIME", x.count(0), 100);
        due.is("HOUR", x.count(1), 4);
        due.is("waits(20)", x.waits(20), 0);
        due.is("waits(0)", x.waits(0), BadgeDoors.BAD);
        due.is("waits(-1)", x.waits(-1), BadgeDoors.BAD);
        due.is("waits(100)", x.waits(100), BadgeDoors.BAD);
        due.is("TIME", x.count(0), 120);
        due.is("back", x.back(), 2);
        due.is("TIME", x.count(0), 100);
    }

    private static void of() {
        BadgeDoors x = new BadgeDoors();
        due.is("no such", x.of(0, 0), BadgeDoors.BAD);
        x.door(2, 3, 1, 2);
        x.door(0, 4, 0, 0);
        x.badge(3);
        x.badge(3);
        x.sets(1, 0, 1);
        x.sets(1, 1, 1);
        x.locks(0, 1);
        x.asks(1, 1, 0);
        x.online(0, 0);
        int[] first = {2, 3, 1, 2, 0, 0, 1, 0, 0, -1, 0};
        int[] second = {0, 4, 0, 0, 1, 1, 0, 1, 0, 1, 0};
        for (int what = 0; what < 11; what++) {
            due.is("of(0, " + what + ")", x.of(0, what), first[what]);
            due.is("of(1, " + what + ")", x.of(1, what), second[what]);
        }
        due.is("passes", x.asks(0, 0, 0), 0);
        due.is("OPEN", x.of(0, 8), 1);
        due.is("NOTES", x.of(0, 10), 1);
        due.is("what 11", x.of(0, 11), BadgeDoors.BAD);
        due.is("what -1", x.of(0, -1), BadgeDoors.BAD);
        due.is("DOOR 2", x.of(2, 0), BadgeDoors.BAD);
        due.is("DOOR -1", x.of(-1, 0), BadgeDoors.BAD);
        due.is("questions count, too", x.told(0), 5);
    }

    private static void about() {
        BadgeDoors x = new BadgeDoors();
        due.is("no such", x.about(0, 0), BadgeDoors.BAD);
        x.badge(1);
        x.badge(3);
        x.door(0, 4, 0, 0);
        x.waits(30);
        x.asks(1, 0, 1);
        x.asks(1, 0, 0);
        x.bars(1, 1);
        int[] first = {1, 0, 0, 0, 0, 0};
        int[] second = {3, 1, 4, 30, 1, 2};
        for (int what = 0; what < 6; what++) {
            due.is("about(0, " + what + ")", x.about(0, what), first[what]);
            due.is("about(1, " + what + ")", x.about(1, what), second[what]);
        }
        due.is("what 6", x.about(0, 6), BadgeDoors.BAD);
        due.is("what -1", x.about(0, -1), BadgeDoors.BAD);
        due.is("BADGE 2", x.about(2, 0), BadgeDoors.BAD);
        due.is("BADGE -1", x.about(-1, 0), BadgeDoors.BAD);
    }

    private static void note() {
        BadgeDoors x = new BadgeDoors();
        due.is("no such", x.note(0, 0, 0), BadgeDoors.BAD);
        x.door(0, 1, 0, 0);
        x.door(0, 1, 0, 0);
        x.badge(0);
        x.badge(0);
        x.online(1, 0);
        x.waits(40);
        x.asks(1, 1, 0);
        x.waits(2);
        x.asks(0, 1, 0);
        due.is("TIME of the first", x.note(1, 0, 0), 40);
        due.is("BADGE of the first", x.note(1, 0, 1), 1);
        due.is("TIME of the second", x.note(1, 1, 0), 42);
        due.is("BADGE of the second", x.note(1, 1, 1), 0);
        due.is("not so many", x.note(1, 2, 0), BadgeDoors.NONE);
        due.is("not so many", x.note(1, Integer.MAX_VALUE, 1), BadgeDoors.NONE);
        due.is("another DOOR has none", x.note(0, 0, 0), BadgeDoors.NONE);
        due.is("NONE is no refusal", x.told(0), 1);
        due.is("i -1", x.note(1, -1, 0), BadgeDoors.BAD);
        due.is("what 2", x.note(1, 0, 2), BadgeDoors.BAD);
        due.is("what -1", x.note(1, 0, -1), BadgeDoors.BAD);
        due.is("DOOR 2", x.note(2, 0, 0), BadgeDoors.BAD);
        due.is("wrong, though not so many", x.note(1, 9, 2), BadgeDoors.BAD);
        x.online(1, 1);
        due.is("none then", x.note(1, 0, 0), BadgeDoors.NONE);
    }

    private static void insideAndMuster() {
        BadgeDoors x = new BadgeDoors();
        x.door(0, 1, 0, 0);
        x.door(0, 5, 0, 0);
        for (int b = 0; b < 8; b++) {
            x.badge(0);
        }
        x.asks(0, 0, 0);
        x.asks(3, 0, 0);
        x.asks(7, 1, 0);
        due.is("how many in 1", x.inside(1, 0), 2);
        due.is("which in 1", x.inside(1, 1), 9);
        due.is("how many in 5", x.inside(5, 0), 1);
        due.is("which in 5", x.inside(5, 1), 128);
        due.is("how many outside", x.inside(0, 0), 5);
        due.is("which outside", x.inside(0, 1), 118);
        due.is("muster(0)", x.muster(0), 137);
        due.is("muster(1)", x.muster(1), 128);
        due.is("muster(5)", x.muster(5), 9);
        due.is("muster(2)", x.muster(2), 137);
        due.is("inside(6, 0)", x.inside(6, 0), BadgeDoors.BAD);
        due.is("inside(-1, 0)", x.inside(-1, 0), BadgeDoors.BAD);
        due.is("inside(0, 2)", x.inside(0, 2), BadgeDoors.BAD);
        due.is("inside(0, -1)", x.inside(0, -1), BadgeDoors.BAD);
        due.is("muster(6)", x.muster(6), BadgeDoors.BAD);
        due.is("muster(-1)", x.muster(-1), BadgeDoors.BAD);
        due.is("BAD", x.told(0), 6);
    }

    private static void way() {
        BadgeDoors x = new BadgeDoors();
        due.is("no such", x.way(0, 0, 1, -1), BadgeDoors.BAD);
        for (int area = 0; area < 5; area++) {
            x.door(area, area + 1, 0, 0);
        }
        x.badge(0);
        due.is("five DOORS", x.way(0, 0, 5, -1), 5);
        for (int i = 0; i < 5; i++) {
            due.is("the " + i + "-th", x.way(0, 0, 5, i), i);
        }
        due.is("not so many", x.way(0, 0, 5, 5), -5);
        due.is("not so many", x.way(0, 0, 5, Integer.MAX_VALUE), -5);
        due.is("there is none", x.way(0, 5, 0, -1), -5);
        due.is("there is none", x.way(0, 5, 0, 0), -5);
        due.is("one", x.way(0, 3, 4, -1), 1);
        due.is("which", x.way(0, 3, 4, 0), 3);
        x.door(0, 5, 0, 0);
        due.is("a shorter one", x.way(0, 0, 5, -1), 1);
        due.is("which", x.way(0, 0, 5, 0), 5);
        due.is("alike", x.way(0, 2, 2, -1), BadgeDoors.BAD);
        due.is("i -2", x.way(0, 0, 5, -2), BadgeDoors.BAD);
        due.is("a 6", x.way(0, 6, 5, -1), BadgeDoors.BAD);
        due.is("a -1", x.way(0, -1, 5, -1), BadgeDoors.BAD);
        due.is("c 6", x.way(0, 0, 6, -1), BadgeDoors.BAD);
        due.is("c -1", x.way(0, 0, -1, -1), BadgeDoors.BAD);
        due.is("BADGE 1", x.way(1, 0, 5, -1), BadgeDoors.BAD);
        due.is("BAD", x.told(0), 8);
    }

    private static void wayByHourAndBars() {
        BadgeDoors x = new BadgeDoors();
        x.door(0, 1, 1, 2);
        x.door(1, 0, 3, 3);
        x.door(1, 2, 1, 1);
        x.badge(1);
        due.is("at night none", x.way(0, 0, 2, -1), -5);
        x.waits(8);
        due.is("by day", x.way(0, 0, 2, -1), 2);
        due.is("out always", x.way(0, 1, 0, -1), 1);
        x.bars(0, 1);
        due.is("BARRED", x.way(0, 0, 2, -1), -5);
        due.is("out always", x.way(0, 1, 0, 0), 1);
        x.bars(0, 0);
        x.sets(0, 0, 2);
        x.sets(2, 0, 2);
        x.sets(2, 1, 1);
        x.locks(0, 1);
        x.asks(0, 1, 0);
        due.is("LOCK, BACK, PAIR aside", x.way(0, 0, 2, -1), 2);
        x.online(0, 0);
        due.is("ONLINE or not", x.way(0, 0, 2, 0), 0);
        x.levels(0, 0);
        due.is("not by the COPY", x.way(0, 0, 2, -1), -5);
    }

    private static void wayOfLikeOnes() {
        BadgeDoors x = new BadgeDoors();
        x.door(2, 3, 0, 0);
        x.door(1, 3, 0, 0);
        x.door(0, 2, 0, 0);
        x.door(0, 1, 3, 3);
        x.door(0, 1, 0, 0);
        x.badge(0);
        due.is("two DOORS", x.way(0, 0, 3, -1), 2);
        due.is("the first by numbers", x.way(0, 0, 3, 0), 2);
        due.is("and then", x.way(0, 0, 3, 1), 0);
        x.door(0, 3, 3, 3);
        x.badge(3);
        due.is("one DOOR for another BADGE", x.way(1, 0, 3, -1), 1);
        due.is("to 1 by one that it may", x.way(0, 0, 1, 0), 4);
        due.is("to 1 by the first", x.way(1, 0, 1, 0), 3);
        x.door(3, 4, 0, 0);
        due.is("three DOORS", x.way(0, 0, 4, -1), 3);
        due.is("0", x.way(0, 0, 4, 0), 2);
        due.is("1", x.way(0, 0, 4, 1), 0);
        due.is("2", x.way(0, 0, 4, 2), 6);
    }

    private static void passed() {
        BadgeDoors x = new BadgeDoors();
        due.is("none", x.passed(0, 0), BadgeDoors.NONE);
        for (int k = 0; k < 8; k++) {
            x.door(0, 1, 0, 0);
            x.badge(0);
        }
        x.online(7, 0);
        for (int k = 63; k >= 0; k--) {
            x.asks(k % 8, k / 8, 0);
        }
        x.asks(3, 4, 0);
        x.asks(3, 7, 0);
        due.is("all twos", x.count(11), 64);
        for (int i = 0; i < 64; i++) {
            due.is("BADGE " + i, x.passed(i, 0), (63 - i) % 8);
            due.is("DOOR " + i, x.passed(i, 1), (63 - i) / 8);
            boolean again = (63 - i) % 8 == 3 && ((63 - i) / 8 == 4 || (63 - i) / 8 == 7);
            due.is("how often " + i, x.passed(i, 2), again ? 2 : 1);
        }
        due.is("not so many", x.passed(64, 0), BadgeDoors.NONE);
        due.is("not so many", x.passed(Integer.MAX_VALUE, 2), BadgeDoors.NONE);
        due.is("i -1", x.passed(-1, 0), BadgeDoors.BAD);
        due.is("what 3", x.passed(0, 3), BadgeDoors.BAD);
        due.is("what -1", x.passed(0, -1), BadgeDoors.BAD);
        due.is("wrong, though not so many", x.passed(64, 3), BadgeDoors.BAD);
    }

    private static void count() {
        BadgeDoors x = new BadgeDoors();
        x.door(0, 1, 0, 0);
        x.badge(0);
        x.waits(50);
        x.asks(0, 0, 1);
        due.is("TIME", x.count(0), 50);
        due.is("HOUR", x.count(1), 2);
        due.is("ALARMS", x.count(4), 1);
        due.is("LET", x.count(5), 1);
        due.is("twos", x.count(11), 1);
        due.is("count(12)", x.count(12), BadgeDoors.BAD);
        due.is("count(-1)", x.count(-1), BadgeDoors.BAD);
        due.is("BAD", x.told(0), 2);
    }
}
