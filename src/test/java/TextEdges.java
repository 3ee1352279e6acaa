import java.util.function.IntSupplier;

/** The edges that 'Terms' names of texts and STATES, and those of promises 19 to 24. */
final class TextEdges {
    private static final int BAD = BadgeDoors.BAD, NONE = BadgeDoors.NONE, NO = BadgeDoors.NO, FULL = BadgeDoors.FULL;
    private static final String[] WORDS = {"badge", "door", "ask", "duress", "wait", "off", "on", "bar"};
    private static final int[] NUMBERS = {1, 4, 2, 2, 1, 1, 1, 1};
    private static final int FINE = -1;

    private final Edges e;

    TextEdges(Edges edges) {
        e = edges;
    }

    void look() {
        textLength();
        orderEnds();
        orders();
        words();
        figures();
        blanks();
        faultByEveryByte();
        faultOfWords();
        faultAtTheEnd();
        faultDoesNothing();
        passedOver();
        statesOfEachCall();
        whatComesBack();
        olderStatesAreLost();
        refusals();
        firstRefusal();
        type();
        clear();
        reads();
        back();
        told();
        digest();
    }

    /** A house where ORDERS find something, with four STATES. */
    private static BadgeDoors house() {
        BadgeDoors x = Due.house(1, 2);
        x.waits(1);
        return x;
    }

    /** FINE, or the place that is due. */
    private void fault(String text, int place) {
        BadgeDoors x = new BadgeDoors();
        Due.type(x, text);
        int got = x.reads();
        e.is("FAULT of '" + text + "'", got >= 0 ? FINE : -10 - got, place);
    }

    private void textLength() {
        e.at("Terms", "THE TEXT (150 bytes at most)");
        BadgeDoors x = house();
        String text = "on0;".repeat(36) + "wait9;";
        for (int i = 0; i < 150; i++) {
            e.is("byte " + i, x.type(text.charAt(i)), i + 1);
        }
        e.refused(x, "one more", FULL, () -> x.type(';'));
        e.is("the last ORDER is done", x.reads(), 1);
        e.is("TIME", x.count(0), 10);
    }

    private void orderEnds() {
        e.at("Terms", "tells ORDERS, each ended by ;");
        fault("on0;", FINE);
        fault("on0", 3);
        fault("on0 on0;", 4);
        fault("on0on0;", 3);
        fault("on0;on0", 7);
        fault("on0;;", 4);
        fault(";on0;", 0);
        fault("on0:", 3);
    }

    private void orders() {
        e.at("Terms", "a word, then numbers: badge LEVEL (as badge), door FROM TO DAY NIGHT (as door), ask BADGE DOOR (as asks), duress BADGE DOOR (as asks, with it), wait n (as waits), off DOOR, on DOOR (as online), bar BADGE (as bars, 1).");
        for (int w = 0; w < WORDS.length; w++) {
            String text = WORDS[w];
            for (int k = 0; k < NUMBERS[w]; k++) {
                fault(text + ";", text.length());
                fault(text, text.length());
                text += k == 0 ? "9" : " 9";
            }
            fault(text + ";", FINE);
            fault(text, text.length());
            fault(text + " 9;", text.length() + 1);
            fault("9" + text + ";", 0);
        }
        BadgeDoors x = twoOfEach();
        asCall(x, "badge 3;", () -> x.badge(3));
        asCall(x, "door 5 4 3 2;", () -> x.door(5, 4, 3, 2));
        asCall(x, "ask 1 0;", () -> x.asks(1, 0, 0));
        asCall(x, "ask 0 1;", () -> x.asks(0, 1, 0));
        asCall(x, "duress 1 0;", () -> x.asks(1, 0, 1));
        asCall(x, "duress 0 1;", () -> x.asks(0, 1, 1));
        asCall(x, "wait 1;", () -> x.waits(1));
        asCall(x, "wait 99;", () -> x.waits(99));
        asCall(x, "off 1;", () -> x.online(1, 0));
        asCall(x, "on 0;", () -> x.online(0, 1));
        asCall(x, "bar 1;", () -> x.bars(1, 1));
    }

    /** Two DOORS, the first of them off with a NOTE, two BADGES, and no STATE lost. */
    private static BadgeDoors twoOfEach() {
        BadgeDoors x = new BadgeDoors();
        Due.read(x, "door 0 1 0 0;door 1 2 0 0;badge 0;badge 0;off 0;wait 9;ask 0 0;");
        return x;
    }

    /** An ORDER does what its call does; both are taken back. */
    private void asCall(BadgeDoors x, String order, IntSupplier call) {
        Due.type(x, order);
        call.getAsInt();
        long want = x.digest();
        x.back();
        e.is(order, x.reads(), 1);
        e.is(order + " is as its call", x.digest(), want);
        x.back();
    }

    private void words() {
        e.at("Terms", "Words are of small letters");
        for (String word : WORDS) {
            fault(word.toUpperCase() + " 1", 0);
            fault(word.substring(0, 1).toUpperCase() + word.substring(1), 0);
            int last = word.length() - 1;
            fault(word.substring(0, last) + word.substring(last).toUpperCase(), 0);
            for (int i = 0; i <= last; i++) {
                fault(word.substring(0, i) + "x" + word.substring(i + 1), 0);
                fault(word.substring(0, i) + word.substring(i + 1), 0);
                fault(word.substring(0, i) + "x" + word.substring(i), 0);
            }
            fault(word + "x", 0);
            fault(word, word.length());
        }
    }

    private void figures() {
        e.at("Terms", "numbers have 1 or 2 figures");
        BadgeDoors x = house();
        e.is("one", Due.read(x, "wait 9;"), 1);
        e.is("two", Due.read(x, "wait 99;"), 1);
        e.is("two, the first 0", Due.read(x, "wait 01;"), 1);
        e.is("TIME", x.count(0), 110);
        e.is("the least", Due.read(x, "ask 00 0;"), 1);
        e.is("of 0 nothing is waited", Due.read(x, "wait 00;"), 0);
        fault("wait ;", 5);
        fault("wait 999;", 7);
        fault("wait 000;", 7);
        fault("wait 9 9;", 7);
        fault("wait 99 9;", 8);
        fault("wait -1;", 5);
        fault("wait +1;", 5);
        fault("wait 1.;", 6);
        fault("door 00 11 22 333;", 16);
        fault("door0123;", 6);
    }

    private void blanks() {
        e.at("Terms", "blanks (32) may stand anywhere but within a word or a number, needed only between two numbers.");
        BadgeDoors x = house();
        e.is("everywhere", Due.read(x, "  ask  0  0  ;  wait  12  ;  "), 2);
        e.is("nowhere else", Due.read(x, "ask0 0;wait12;on0;"), 2);
        e.is("TIME", x.count(0), 25);
        fault("a sk 0 0;", 0);
        fault("as k 0 0;", 0);
        fault("o n 0;", 0);
        fault("wait 1 2;", 7);
        fault("ask 00;", 6);
        fault("ask 01;", 6);
        for (int c = 0; c < 128; c++) {
            if (c != ' ') {
                fault("ask 0" + (char) c + "0;", c >= '0' && c <= '9' ? 6 : 5);
            }
        }
    }

    /** Behind each beginning every byte there is, with nothing behind it. */
    private void faultByEveryByte() {
        e.at("Terms", "FAULT: the place of the first byte that can not stand there");
        for (int c = 0; c < 128; c++) {
            boolean letter = c >= 'a' && c <= 'z';
            boolean figure = c >= '0' && c <= '9';
            boolean blank = c == ' ';
            boolean end = c == ';';
            fault("" + (char) c, blank ? 1 : 0);
            fault(" " + (char) c, blank ? 2 : 1);
            fault("on" + (char) c, letter ? 0 : figure || blank ? 3 : 2);
            fault("on " + (char) c, figure || blank ? 4 : 3);
            fault("on0" + (char) c, end ? FINE : figure || blank ? 4 : 3);
            fault("on00" + (char) c, end ? FINE : blank ? 5 : 4);
            fault("on0 " + (char) c, end ? FINE : blank ? 5 : 4);
            fault("on0;" + (char) c, blank ? FINE : 4);
            fault("ask0" + (char) c, figure || blank ? 5 : 4);
            fault("ask0 " + (char) c, figure || blank ? 6 : 5);
            fault("ask0 0" + (char) c, end ? FINE : figure || blank ? 7 : 6);
        }
    }

    private void faultOfWords() {
        e.at("Terms", "(of a word that is none its first byte, a third figure, too)");
        fault("one 0;", 0);
        fault("onn0;", 0);
        fault("onoff0;", 0);
        fault("of 0;", 0);
        fault("badges 1;", 0);
        fault("  asks 0 0;", 2);
        fault("on0;  asks 0 0;", 6);
        fault("on0;of;on0;", 4);
        fault("x;", 0);
        fault("bars 0;", 0);
        fault("wait 100;", 7);
        fault("ask 100 0;", 6);
        fault("ask 0 100;", 8);
        fault("on0;on123", 8);
        fault("ask 0 x;", 6);
        fault("ask 0 on 0;", 6);
    }

    private void faultAtTheEnd() {
        e.at("Terms", "the TEXT's length, if it ends too early (an empty one, one of blanks alone, too; a word that is none at the end, too, is told by its first byte).");
        fault("", 0);
        fault(" ", 1);
        fault(" ".repeat(149), 149);
        fault(" ".repeat(150), 150);
        fault("on", 2);
        fault("on ", 3);
        fault("on 0", 4);
        fault("on 0 ", 5);
        fault("on0;on", 6);
        fault("on0; ", FINE);
        fault("on0;" + " ".repeat(146), FINE);
        fault(" ".repeat(148) + "on", 150);
        fault(" ".repeat(148) + "of", 148);
        fault("o", 0);
        fault("b", 0);
        fault("  bad", 2);
        fault("on0;o", 4);
        fault("on0; badg", 5);
        fault("on0; badgee", 5);
    }

    private void faultDoesNothing() {
        e.at("Terms", "If there is one, nothing is done.");
        BadgeDoors x = house();
        Due.type(x, "ask 0 0;wait 9;badge 1;off 0;bar 0;x");
        e.asked(x, "the last byte", -45, () -> x.reads());
        Due.type(x, "");
        e.asked(x, "no byte", -10, () -> x.reads());
        e.is("no STATE", x.told(6), 4);
    }

    private void passedOver() {
        e.at("Terms", "An ORDER that its call would refuse is passed over.");
        // It has four STATES, so that not even their number changes.
        BadgeDoors x = house();
        String[] wrong = {"badge 4", "door 0 0 0 0", "door 6 0 0 0", "door 0 6 0 0", "door 0 1 4 0", "door 0 1 0 4",
            "ask 2 0", "ask 0 1", "duress 2 0", "duress 0 1", "wait 0", "off 1", "on 1", "on 0", "bar 2", "bar 99"};
        for (String order : wrong) {
            Due.type(x, order + ";");
            e.asked(x, order, 0, () -> x.reads());
        }
        BadgeDoors y = house();
        e.is("those around it are done", Due.read(y, "wait 1;wait 0;wait 2;off 0;off 0;on 0;on 0;"), 4);
        e.is("TIME", y.count(0), 4);
        e.is("by what an ORDER before it did", Due.read(y, "bar 2;badge 0;bar 2;"), 2);
        e.is("not LET is not refused", Due.read(y, "ask 2 0;"), 1);
        BadgeDoors z = new BadgeDoors();
        e.is("FULL: DOORS", Due.read(z, "door0 1 0 0;".repeat(9)), 8);
        e.is("FULL: BADGES", Due.read(z, "badge0;".repeat(9)), 8);
        e.at("Terms", "By a FAULT, by ORDERS passed over nothing counts.");
        Due.type(z, "badge0;badge4;on0;door0 1 0 0;");
        e.is("FULL, BAD, NO", z.reads(), 0);
        Due.type(z, "?");
        e.is("a FAULT", z.reads(), -10);
        for (int what = 0; what < 3; what++) {
            e.is("told(" + what + ")", z.told(what), 0);
        }
    }

    private void statesOfEachCall() {
        e.at("Terms", "each call told S, if it is not refused, leaves one, also if nothing changes by it, to go back to");
        BadgeDoors x = new BadgeDoors();
        x.badge(0);
        e.leavesState(x, "door", 0, () -> x.door(1, 2, 3, 3));
        x.door(1, 2, 3, 3);
        e.leavesState(x, "sets to what it was", 0, () -> x.sets(0, 0, 0));
        e.leavesState(x, "locks to none as before", NONE, () -> x.locks(0, NONE));
        e.leavesState(x, "badge", 1, () -> x.badge(0));
        e.leavesState(x, "levels to what it was", 0, () -> x.levels(0, 0));
        e.leavesState(x, "bars to what it was", 0, () -> x.bars(0, 0));
        e.leavesState(x, "online", 0, () -> x.online(0, 0));
        e.leavesState(x, "asks, not LET", 3, () -> x.asks(0, 0, 1));
        e.leavesState(x, "waits", 99 % 24, () -> x.waits(99));
        Due.type(x, "badge 9;");
        e.leavesState(x, "reads, all passed over", 0, () -> x.reads());
        statesOfOthers();
    }

    private void statesOfOthers() {
        BadgeDoors x = house();
        x.back();
        x.type(1);
        x.clear();
        x.reads();
        x.of(0, 0);
        x.about(0, 0);
        x.note(0, 0, 0);
        x.inside(0, 0);
        x.muster(0);
        x.way(0, 0, 1, -1);
        x.passed(0, 0);
        x.count(0);
        x.told(0);
        x.digest();
        e.is("none by the others, nor by a FAULT", x.told(6), 3);
    }

    private void whatComesBack() {
        e.at("Terms", "(all but THE TEXT and how often refused)");
        BadgeDoors x = house();
        x.sets(0, 1, 1);
        x.asks(0, 0, 0);
        x.type('x');
        x.waits(0);
        x.online(0, 1);
        x.waits(5);
        x.type('y');
        x.waits(0);
        x.online(0, 1);
        e.is("back", x.back(), 3);
        e.is("BAD stays", x.told(0), 2);
        e.is("NO stays", x.told(1), 2);
        e.is("THE TEXT stays", x.told(3), 2);
        e.is("TIME", x.count(0), 1);
        e.is("who WAITS", x.of(0, 9), 0);
        x.clear();
        e.is("back", x.back(), 2);
        e.is("THE TEXT stays empty", x.told(3), 0);
    }

    private void olderStatesAreLost() {
        e.at("Terms", "4 at most, older ones lost.");
        for (int many = 0; many <= 9; many++) {
            BadgeDoors x = new BadgeDoors();
            for (int k = 0; k < many; k++) {
                x.waits(1);
            }
            int most = Math.min(many, 4);
            e.is("STATES of " + many, x.told(6), most);
            for (int k = 1; k <= most; k++) {
                e.is("back", x.back(), most - k);
                e.is("TIME", x.count(0), many - k);
            }
            e.refused(x, "one more", NO, x::back);
            e.is("TIME", x.count(0), many - most);
        }
    }

    private void refusals() {
        e.at("Terms", "Refused (a question, too), changing nothing but how often");
        BadgeDoors x = house();
        e.refused(x, "a question", BAD, () -> x.count(12));
        e.refused(x, "a question", BAD, () -> x.told(-1));
        e.refused(x, "a call told S", BAD, () -> x.waits(100));
        e.refused(x, "a byte", BAD, () -> x.type(128));
        e.refused(x, "NO", NO, () -> x.online(0, 1));
        e.is("BAD", x.told(0), 4);
        e.is("NO", x.told(1), 1);
        e.is("FULL", x.told(2), 0);
    }

    private void firstRefusal() {
        e.at("Terms", "the first of: BAD -2 a number is not as told; NO -3 as told; FULL -4 as told.");
        BadgeDoors x = new BadgeDoors();
        for (int k = 0; k < 8; k++) {
            x.door(0, 1, 0, 0);
            x.badge(0);
        }
        for (int k = 0; k < 150; k++) {
            x.type(' ');
        }
        e.refused(x, "door: BAD before FULL", -2, () -> x.door(0, 0, 0, 0));
        e.refused(x, "door: FULL", -4, () -> x.door(0, 1, 0, 0));
        e.refused(x, "badge: BAD before FULL", -2, () -> x.badge(4));
        e.refused(x, "badge: FULL", -4, () -> x.badge(3));
        e.refused(x, "type: BAD before FULL", -2, () -> x.type(-1));
        e.refused(x, "type: FULL", -4, () -> x.type(0));
        e.refused(x, "online: BAD before NO", -2, () -> x.online(8, 1));
        e.refused(x, "online: NO", -3, () -> x.online(7, 1));
    }

    private void type() {
        e.at("Promise 19", "A byte (0 .. 127) comes behind THE TEXT: how many it has");
        BadgeDoors x = new BadgeDoors();
        e.is("the least", x.type(0), 1);
        e.is("the most", x.type(127), 2);
        e.is("no STATE", x.told(6), 0);
        e.at("Promise 19", "BAD; FULL: 150");
        e.badNumbers(x, new int[][] {{0, 127}}, n -> x.type(n[0]));
        for (int k = 3; k <= 150; k++) {
            e.is("byte", x.type(k % 128), k);
        }
        e.refused(x, "one more", FULL, () -> x.type(0));
        e.badNumbers(x, new int[][] {{0, 127}}, n -> x.type(n[0]));
        e.is("they were", x.clear(), 150);
        e.is("room again", x.type(0), 1);
    }

    private void clear() {
        e.at("Promise 20", "THE TEXT is empty: how many it had");
        BadgeDoors x = new BadgeDoors();
        e.asked(x, "an empty one", 0, x::clear);
        Due.type(x, "on0;on");
        e.is("six", x.clear(), 6);
        e.is("empty", x.told(3), 0);
        e.is("nothing is left of it", x.reads(), -10);
        e.is("one byte", x.type('o'), 1);
        e.is("nothing is left behind it", x.reads(), -10);
        e.is("one", x.clear(), 1);
        Due.type(x, "on0");
        e.is("no ; is left behind it", x.reads(), -13);
        x.clear();
        for (int k = 0; k < 150; k++) {
            x.type(' ');
        }
        e.is("a full one", x.clear(), 150);
        e.refused(x, "no STATE", NO, x::back);
    }

    private void reads() {
        e.at("Promise 21", "ORDERS are done (THE TEXT stays): how many were not passed over");
        BadgeDoors x = house();
        Due.type(x, "wait1;");
        e.is("one", x.reads(), 1);
        e.is("THE TEXT stays", x.told(3), 6);
        e.is("once more", x.reads(), 1);
        e.is("TIME", x.count(0), 3);
        e.is("the most there can be", Due.read(x, "bar0;".repeat(30)), 30);
        e.is("the most there can be", Due.read(x, "off0;on0;".repeat(16) + "off0;"), 33);
        e.is("none", Due.read(x, "bar2;wait0;"), 0);
        e.at("Promise 21", "S (one STATE for all)");
        BadgeDoors y = new BadgeDoors();
        e.is("three", Due.read(y, "wait1;wait1;wait1;"), 3);
        e.is("STATES", y.told(6), 1);
        e.is("back", y.back(), 0);
        e.is("TIME", y.count(0), 0);
        Due.type(y, "wait0;");
        e.leavesState(y, "none done", 0, () -> y.reads());
        e.at("Promise 21", "-10 less the FAULT");
        BadgeDoors z = house();
        Due.type(z, ";");
        e.asked(z, "at the first byte", -10, () -> z.reads());
        Due.type(z, "on0;".repeat(37) + "on");
        e.asked(z, "behind the last of 150", -160, () -> z.reads());
        Due.type(z, "on0;".repeat(37) + "0;");
        e.asked(z, "at the last but one of 150", -158, () -> z.reads());
        Due.type(z, "on0;".repeat(37) + " ;");
        e.asked(z, "at the last of 150", -159, () -> z.reads());
    }

    private void back() {
        e.at("Promise 22", "A STATE back: how many can be yet");
        BadgeDoors x = house();
        e.is("of four", x.back(), 3);
        e.is("TIME", x.count(0), 0);
        x.badge(0);
        e.is("four again", x.told(6), 4);
        for (int k = 3; k >= 0; k--) {
            e.is("back", x.back(), k);
        }
        e.is("DOORS", x.told(4), 0);
        e.at("Promise 22", "NO: none");
        e.refused(x, "none", NO, x::back);
        e.refused(x, "none again", NO, x::back);
        BadgeDoors y = new BadgeDoors();
        e.refused(y, "of a new one", NO, y::back);
        y.waits(0);
        e.refused(y, "of one that was refused", NO, y::back);
        e.is("a STATE", y.waits(1) + y.told(6), 2);
        e.is("back", y.back(), 0);
    }

    private void told() {
        e.at("Promise 23", "How often refused: BAD (0), NO (1), FULL (2); bytes of THE TEXT (3), DOORS (4), BADGES (5), STATES (6)");
        BadgeDoors x = new BadgeDoors();
        for (int what = 0; what < 7; what++) {
            int w = what;
            e.asked(x, "told(" + w + ") of a new one", 0, () -> x.told(w));
        }
        for (int k = 0; k < 9; k++) {
            x.badge(k % 4);
        }
        for (int k = 0; k < 10; k++) {
            x.door(0, 1, 0, 0);
        }
        for (int k = 0; k < 151; k++) {
            x.type(' ');
        }
        x.online(0, 1);
        x.waits(0);
        x.waits(100);
        int[] want = {2, 1, 4, 150, 8, 8, 4};
        for (int what = 0; what < 7; what++) {
            int w = what;
            e.asked(x, "told(" + w + ") of a full one", want[w], () -> x.told(w));
        }
        e.at("Promise 23", "BAD");
        e.badNumbers(x, new int[][] {{0, 6}}, n -> x.told(n[0]));
        e.is("BAD counts those", x.told(0), 6);
    }

    private void digest() {
        e.at("Promise 24", "h = 2437; then h = 31 h + v for each v: told(0) to told(6); DOOR by DOOR of(0) to of(10); BADGE by BADGE about(0) to about(5); count(0) to count(11); of all twos that PASSED passed(0) to passed(2)");
        BadgeDoors x = new BadgeDoors();
        e.is("of a new one", x.digest(), Due.digestByCalls(x));
        x.door(0, 1, 2, 3);
        e.is("of a DOOR alone, NONE in it", x.digest(), Due.digestByCalls(x));
        x.back();
        x.badge(3);
        e.is("of a BADGE alone", x.digest(), Due.digestByCalls(x));
        e.is("of a full one", full().digest(), Due.digestByCalls(full()));
        BadgeDoors y = full();
        long before = y.digest();
        e.is("asked twice", y.digest(), before);
        y.clear();
        e.is("without its TEXT it is another", y.digest() == before ? 1 : 0, 0);
    }

    /** Eight DOORS, eight BADGES, all twos PASSED, each kind of refusal, four STATES. */
    private static BadgeDoors full() {
        BadgeDoors x = new BadgeDoors();
        for (int k = 0; k < 9; k++) {
            x.door(k % 6, (k + 1) % 6, k % 4, 3 - k % 4);
            x.badge(3);
        }
        x.online(3, 0);
        x.waits(99);
        for (int k = 0; k < 64; k++) {
            x.asks(k % 8, k / 8, k % 2);
        }
        x.sets(1, 0, 2);
        x.sets(2, 1, 1);
        x.locks(4, 5);
        x.asks(7, 2, 0);
        x.asks(6, 1, 0);
        x.bars(7, 1);
        x.online(0, 1);
        x.waits(0);
        x.type('x');
        return x;
    }
}
