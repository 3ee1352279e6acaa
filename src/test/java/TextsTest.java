/** Promises 19 to 24: type, clear, reads, back, told, digest. */
public final class TextsTest {
    private static final Due due = new Due();

    public static void main(String[] args) {
        type();
        clear();
        readsEachWord();
        readsWithBlanks();
        readsPassesOver();
        readsIsOneState();
        faults();
        aFaultDoesNothing();
        back();
        backBringsAllBack();
        nothingStaysOfWhatWasTakenBack();
        told();
        digest();
        due.end();
    }

    private static void type() {
        BadgeDoors x = new BadgeDoors();
        due.is("type(-1)", x.type(-1), BadgeDoors.BAD);
        due.is("type(128)", x.type(128), BadgeDoors.BAD);
        for (int k = 1; k <= 150; k++) {
            due.is("type", x.type(k % 128), k);
        }
        due.is("a byte more", x.type(0), BadgeDoors.FULL);
        due.is("a byte more, wrong", x.type(128), BadgeDoors.BAD);
        due.is("bytes", x.told(3), 150);
        due.is("BAD", x.told(0), 3);
        due.is("FULL", x.told(2), 1);
        due.is("no STATE", x.told(6), 0);
    }

    private static void clear() {
        BadgeDoors x = new BadgeDoors();
        due.is("empty", x.clear(), 0);
        x.type(127);
        x.type(0);
        due.is("two", x.clear(), 2);
        due.is("empty", x.told(3), 0);
        due.is("type", x.type(32), 1);
    }

    private static void readsEachWord() {
        BadgeDoors x = new BadgeDoors();
        due.is("badge", Due.read(x, "badge 2;"), 1);
        due.is("about(0, 0)", x.about(0, 0), 2);
        due.is("door", Due.read(x, "door 0 1 2 3;"), 1);
        for (int what = 0; what < 4; what++) {
            due.is("of(0, " + what + ")", x.of(0, what), what);
        }
        due.is("wait", Due.read(x, "wait 09;"), 1);
        due.is("TIME", x.count(0), 9);
        due.is("ask", Due.read(x, "ask 0 0;"), 1);
        due.is("IN", x.about(0, 2), 1);
        due.is("no ALARM", x.count(4), 0);
        due.is("duress", Due.read(x, "duress 0 0;"), 1);
        due.is("ALARMS", x.about(0, 4), 1);
        due.is("off", Due.read(x, "off 0;"), 1);
        due.is("not ONLINE", x.of(0, 7), 0);
        due.is("ask", Due.read(x, "ask 0 0;"), 1);
        due.is("NOTES", x.of(0, 10), 1);
        due.is("on", Due.read(x, "on 0;"), 1);
        due.is("ONLINE", x.of(0, 7), 1);
        due.is("merged", x.of(0, 10), 0);
        due.is("bar", Due.read(x, "bar 0;"), 1);
        due.is("BARRED", x.about(0, 1), 1);
        due.is("bar again: not refused", x.reads(), 1);
        due.is("an ask that is not LET is no refusal", Due.read(x, "ask 0 0;"), 1);
        due.is("BARRED ones", x.count(7), 1);
        due.is("THE TEXT stays", x.told(3), 8);
        due.is("done again", x.reads(), 1);
        due.is("BARRED ones", x.count(7), 2);
    }

    private static void readsWithBlanks() {
        BadgeDoors x = new BadgeDoors();
        due.is("blanks", Due.read(x, "   door   0  1 00   03  ;   badge3;wait  7 ; "), 3);
        due.is("NIGHT LEVEL", x.of(0, 3), 3);
        due.is("LEVEL", x.about(0, 0), 3);
        due.is("TIME", x.count(0), 7);
        due.is("none needed", Due.read(x, "door0 1 0 0;badge0;ask0 0;off1;on1;wait99;bar1;"), 7);
        due.is("TIME", x.count(0), 106);
        due.is("BARRED", x.about(1, 1), 1);
        due.is("two figures", Due.read(x, "wait 10;"), 1);
        due.is("TIME", x.count(0), 116);
    }

    private static void readsPassesOver() {
        BadgeDoors x = new BadgeDoors();
        String wrong = "badge 4;door 0 0 0 0;door 6 0 0 0;ask 0 0;duress 0 0;wait 0;off 0;on 0;bar 0;";
        due.is("all passed over", Due.read(x, wrong), 0);
        due.is("a STATE all the same", x.told(6), 1);
        for (int what = 0; what < 3; what++) {
            due.is("nothing counts", x.told(what), 0);
        }
        due.is("by what came before", Due.read(x, "bar 0;badge 0;bar 0;on 0;door 0 1 0 0;on 0;off 0;off 0;"), 4);
        StringBuilder many = new StringBuilder();
        for (int k = 0; k < 9; k++) {
            many.append("badge1;");
        }
        due.is("FULL is passed over", Due.read(x, many.toString()), 7);
        due.is("no FULL", x.told(2), 0);
        due.is("BADGES", x.told(5), 8);
    }

    private static void readsIsOneState() {
        BadgeDoors x = new BadgeDoors();
        x.badge(1);
        Due.read(x, "badge 2;badge 3;wait 5;door 0 1 0 0;ask 0 0;");
        due.is("STATES", x.told(6), 2);
        due.is("back", x.back(), 1);
        due.is("BADGES", x.told(5), 1);
        due.is("DOORS", x.told(4), 0);
        due.is("TIME", x.count(0), 0);
        due.is("THE TEXT stays", x.told(3), 44);
    }

    private static void faults() {
        fault("", 0);
        fault(" ", 1);
        fault("     ", 5);
        fault(";", 0);
        fault("  ;", 2);
        fault("5;", 0);
        fault("Badge 1;", 0);
        fault("asks 0 0;", 0);
        fault("as", 0);
        fault("  as", 2);
        fault("  as 5;", 2);
        fault("as;", 0);
        fault("ba dge 1;", 0);
        fault("baDge 1;", 0);
        fault("badgedoor 1;", 0);
        fault("onn 0;", 0);
        fault("o", 0);
        fault("badge", 5);
        fault("badge  ", 7);
        fault("badge;", 5);
        fault("badge 1", 7);
        fault("badge 1 ", 8);
        fault("badge 1 1;", 8);
        fault("badge 123;", 8);
        fault("badge 12 3;", 9);
        fault("badge 12", 8);
        fault("badge -1;", 6);
        fault("badgeX1;", 5);
        fault("badge 1:", 7);
        fault("badge 1a;", 7);
        fault("badge 1;;", 8);
        fault("badge 1; ;", 9);
        fault("badge 1; x", 9);
        fault("badge 1;ask", 11);
        fault("badge 1;ask 1", 13);
        fault("badge 1;ask 1;", 13);
        fault("badge 1;ask 12;", 14);
        fault("badge 1;ask 123;", 14);
        fault("badge 1;ask 1 2 3;", 16);
        fault("badge 1;\t", 8);
        fault("badge\t1;", 5);
        fault("door 1 2 3;", 10);
        fault("door 1 2 3 4 5;", 13);
        fault("wait 1,on 0;", 6);
        fault("on0;" + "ask 0 0", 11);
        fault(" ".repeat(150), 150);
        fault("on0;".repeat(37) + "on", 150);
        fault("on0;".repeat(37) + "of", 148);
        fault(String.valueOf((char) 0), 0);
        fault("on0" + (char) 127, 3);
    }

    private static void fault(String text, int place) {
        BadgeDoors x = new BadgeDoors();
        due.is("reads() of '" + text + "'", Due.read(x, text), -10 - place);
    }

    private static void aFaultDoesNothing() {
        BadgeDoors x = new BadgeDoors();
        due.is("a FAULT at the end", Due.read(x, "badge 1;door 0 1 0 0;wait 3;x"), -38);
        for (int what = 0; what < 7; what++) {
            due.is("told(" + what + ")", x.told(what), what == 3 ? 29 : 0);
        }
        due.is("TIME", x.count(0), 0);
    }

    private static void back() {
        BadgeDoors x = new BadgeDoors();
        due.is("none", x.back(), BadgeDoors.NO);
        due.is("NO", x.told(1), 1);
        for (int k = 0; k < 6; k++) {
            x.waits(1);
            due.is("STATES", x.told(6), Math.min(k + 1, 4));
        }
        for (int k = 3; k >= 0; k--) {
            due.is("back", x.back(), k);
            due.is("TIME", x.count(0), k + 2);
            due.is("STATES", x.told(6), k);
        }
        due.is("older ones are lost", x.back(), BadgeDoors.NO);
        due.is("NO stays counted", x.told(1), 2);
        x.waits(10);
        due.is("STATES", x.told(6), 1);
        x.waits(10);
        due.is("back", x.back(), 1);
        due.is("TIME", x.count(0), 12);
        x.waits(5);
        due.is("STATES", x.told(6), 2);
        x.back();
        due.is("back", x.back(), 0);
        due.is("TIME", x.count(0), 2);
    }

    private static void backBringsAllBack() {
        BadgeDoors x = new BadgeDoors();
        Due.read(x, "door 0 1 0 0;door 1 2 0 0;badge 1;badge 2;off 1;wait 9;ask 0 1;ask 1 0;");
        x.sets(0, 1, 1);
        x.asks(0, 0, 0);
        long before = x.digest();
        x.online(1, 1);
        due.is("merging taken back: STATES", x.back(), 3);
        due.is("merging taken back: NOTES", x.of(1, 10), 1);
        due.is("merging taken back: its NOTE", x.note(1, 0, 1), 0);
        due.is("WAITS", x.of(0, 9), 0);
        due.is("the same digest", x.digest(), before);
        x.bars(0, 1);
        x.back();
        due.is("the COPY as it was", x.asks(0, 1, 0), 0);
        x.back();
        due.is("let taken back", x.asks(1, 0, 0), 0);
        x.back();
        due.is("BADGES where they were", x.inside(1, 1), 2);
        due.is("twos", x.count(11), 2);
        due.is("how often", x.count(5), 2);
        due.is("FLAWS", x.count(2), 0);
        due.is("refusals stay", refusalsStay(), 3);
    }

    /** Round by round other STATES hold what was taken back, so that each kind of leaving is seen. */
    private static void nothingStaysOfWhatWasTakenBack() {
        BadgeDoors x = new BadgeDoors();
        int[] door = {1, 2, 1, 1, 0, 0, -1, 1, 0, -1, 0};
        int[] badge = {2, 0, 0, 0, 0, 0};
        Due.type(x, "door 0 1 0 0;door 1 0 0 0;badge 3;badge 3;wait 5;duress 0 0;ask 1 0;off 0;ask 0 0;bar 0;bar 1;");
        for (int round = 0; round < 6; round++) {
            x.reads();
            x.sets(0, round % 2, 1);
            x.sets(0, 1 - round % 2, 1);
            x.locks(0, 1);
            goBackAll(x);
            for (int k = 0; k < round % 4; k++) {
                x.waits(1);
            }
            goBackAll(x);
            due.is("the DOOR", x.door(1, 2, 1, 1), 0);
            due.is("the BADGE", x.badge(2), 0);
            for (int what = 0; what < 11; what++) {
                due.is("of(0, " + what + ")", x.of(0, what), door[what]);
            }
            for (int what = 0; what < 6; what++) {
                due.is("about(0, " + what + ")", x.about(0, what), badge[what]);
            }
            for (int what = 0; what < 12; what++) {
                due.is("count(" + what + ")", x.count(what), 0);
            }
            due.is("NOTES", x.note(0, 0, 0), BadgeDoors.NONE);
            goBackAll(x);
        }
    }

    private static void goBackAll(BadgeDoors x) {
        int many = x.told(6);
        for (int k = 0; k < many; k++) {
            x.back();
        }
    }

    private static int refusalsStay() {
        BadgeDoors x = new BadgeDoors();
        x.waits(1);
        x.waits(0);
        x.waits(0);
        x.waits(0);
        x.back();
        return x.told(0);
    }

    private static void told() {
        BadgeDoors x = new BadgeDoors();
        x.door(0, 1, 0, 0);
        x.badge(1);
        x.badge(1);
        x.type(1);
        x.type(2);
        x.type(3);
        x.waits(0);
        x.online(0, 1);
        x.online(0, 1);
        due.is("told(7)", x.told(7), BadgeDoors.BAD);
        due.is("told(-1)", x.told(-1), BadgeDoors.BAD);
        int[] want = {3, 2, 0, 3, 1, 2, 3};
        for (int what = 0; what < 7; what++) {
            due.is("told(" + what + ")", x.told(what), want[what]);
        }
    }

    private static void digest() {
        BadgeDoors x = new BadgeDoors();
        Due.read(x, "door 0 1 0 0;door 1 0 1 2;badge 3;badge 0;ask 0 0;duress 1 0;wait 30;off 1;ask 1 1;");
        x.locks(0, 1);
        x.waits(0);
        due.is("digest by the other calls", x.digest(), Due.digestByCalls(x));
        due.is("digest changes nothing", x.digest(), Due.digestByCalls(x));
    }
}
