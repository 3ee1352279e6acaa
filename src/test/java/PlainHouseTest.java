import java.util.Random;

/** Long runs of calls, made by a fixed seed: BadgeDoors answers as PlainHouse does. */
public final class PlainHouseTest {
    private static final int RUNS = 1500, CALLS = 512, LONGEST_TEXT = 130;
    private static final String[] WORDS = {"badge", "door", "ask", "duress", "wait", "off", "on", "bar"};
    private static final int[] NUMBERS = {1, 4, 2, 2, 1, 1, 1, 1};
    private static final Due due = new Due();

    public static void main(String[] args) {
        for (int run = 0; run < RUNS && due.wrong() == 0; run++) {
            run(run);
        }
        for (int k = 0; k < 60000 && due.wrong() == 0; k++) {
            readOne(new Random(k));
        }
        due.end();
    }

    private static void run(int seed) {
        Random r = new Random(seed);
        BadgeDoors x = new BadgeDoors();
        PlainHouse y = new PlainHouse();
        int calls = 0;
        int wild = r.nextInt(4) == 0 ? 3 : 40;
        int start = seed % 3 == 0 ? 0 : r.nextInt(9);
        for (int k = 0; k < start; k++) {
            calls += compare(r, x, y, k % 3 == 2 ? 3 : 0, wild);
        }
        while (calls < CALLS - LONGEST_TEXT && due.wrong() == 0) {
            boolean goesBack = seed % 3 == 0 && r.nextInt(5) < 2;
            calls += compare(r, x, y, goesBack ? 20 : pick(r), wild);
            if (r.nextInt(8) == 0) {
                due.is("digest() in run " + seed, x.digest(), y.digest());
                calls++;
            }
        }
        if (due.wrong() != 0) {
            System.out.println("in run " + seed);
        }
    }

    /** Asking, waiting and going off come more often than the rest. */
    private static int pick(Random r) {
        int k = r.nextInt(60);
        return k < 25 ? 7 : k < 30 ? 8 : k < 36 ? 6 : k < 38 ? 19 : k < 40 ? 1 : k % 20;
    }

    private static int any(Random r, int least, int most, int wild) {
        if (r.nextInt(wild) == 0) {
            int[] odd = {least - 1, most + 1, -2, Integer.MIN_VALUE, Integer.MAX_VALUE, 1000};
            return odd[r.nextInt(odd.length)];
        }
        return least + r.nextInt(most - least + 1);
    }

    /** How many calls it took. */
    private static int compare(Random r, BadgeDoors x, PlainHouse y, int call, int wild) {
        int d = any(r, 0, Math.max(0, y.told(4) - 1), wild * 3);
        int e = any(r, 0, Math.max(0, y.told(4) - 1), wild * 3);
        int b = any(r, 0, Math.max(0, y.told(5) - 1), wild * 3);
        int p = any(r, 0, 5, wild);
        int q = any(r, 0, 5, wild);
        int v = any(r, 0, 3, wild);
        int w = any(r, 0, 3, wild);
        int f = any(r, 0, 1, wild);
        String with = " (" + call + ": d " + d + " e " + e + " b " + b + " p " + p + " q " + q + " v " + v
            + " w " + w + " f " + f + ")";
        switch (call) {
            case 0 -> due.is("door" + with, x.door(p, q, v, w), y.door(p, q, v, w));
            case 1 -> due.is("sets" + with, x.sets(d, f, v), y.sets(d, f, v));
            case 2 -> due.is("locks" + with, x.locks(d, v == 0 ? -1 : e), y.locks(d, v == 0 ? -1 : e));
            case 3 -> due.is("badge" + with, x.badge(v), y.badge(v));
            case 4 -> due.is("levels" + with, x.levels(b, v), y.levels(b, v));
            case 5 -> due.is("bars" + with, x.bars(b, f), y.bars(b, f));
            case 6 -> due.is("online" + with, x.online(d, f), y.online(d, f));
            case 7 -> due.is("asks" + with, x.asks(b, d, f), y.asks(b, d, f));
            case 8 -> {
                int n = any(r, 1, r.nextBoolean() ? 3 : 99, wild);
                due.is("waits " + n, x.waits(n), y.waits(n));
            }
            case 9 -> {
                int what = any(r, 0, 10, wild);
                due.is("of " + what + with, x.of(d, what), y.of(d, what));
            }
            case 10 -> {
                int what = any(r, 0, 5, wild);
                due.is("about " + what + with, x.about(b, what), y.about(b, what));
            }
            case 11 -> {
                int i = any(r, 0, 21, wild);
                due.is("note " + i + with, x.note(d, i, f), y.note(d, i, f));
            }
            case 12 -> due.is("inside" + with, x.inside(p, f), y.inside(p, f));
            case 13 -> due.is("muster" + with, x.muster(p), y.muster(p));
            case 14 -> {
                int i = any(r, -1, 3, wild);
                due.is("way " + i + with, x.way(b, p, q, i), y.way(b, p, q, i));
            }
            case 15 -> {
                int i = any(r, 0, 20, wild);
                int what = any(r, 0, 2, wild);
                due.is("passed " + i + " " + what, x.passed(i, what), y.passed(i, what));
            }
            case 16 -> {
                int what = any(r, 0, 11, wild);
                due.is("count " + what, x.count(what), y.count(what));
            }
            case 17 -> {
                int what = any(r, 0, 6, wild);
                due.is("told " + what, x.told(what), y.told(what));
            }
            case 18 -> {
                return text(r, x, y);
            }
            case 19 -> {
                if (r.nextInt(3) == 0) {
                    due.is("back", x.back(), y.back());
                }
            }
            default -> due.is("back", x.back(), y.back());
        }
        return 1;
    }

    private static int text(Random r, BadgeDoors x, PlainHouse y) {
        String t = anyText(r, 1 + r.nextInt(6));
        if (r.nextInt(5) > 0) {
            due.is("clear", x.clear(), y.clear());
        }
        for (int i = 0; i < t.length(); i++) {
            due.is("type", x.type(t.charAt(i)), y.type(t.charAt(i)));
        }
        due.is("reads '" + t + "'", x.reads(), y.reads());
        due.is("digest after '" + t + "'", x.digest(), y.digest());
        return t.length() + 3;
    }

    private static void readOne(Random r) {
        String t = anyText(r, r.nextInt(4));
        BadgeDoors x = new BadgeDoors();
        int fault = PlainHouse.fault(t.length() > 150 ? t.substring(0, 150) : t);
        int got = Due.read(x, t);
        due.is("fault of '" + t + "'", got < 0 ? -10 - got : -1, fault);
    }

    private static String anyText(Random r, int orders) {
        StringBuilder t = new StringBuilder();
        for (int k = 0; k < orders; k++) {
            int w = r.nextInt(8);
            t.append(" ".repeat(r.nextInt(8) == 0 ? r.nextInt(3) : 0)).append(WORDS[w]);
            for (int i = 0; i < NUMBERS[w]; i++) {
                t.append(" ".repeat(i == 0 ? r.nextInt(2) : 1)).append(r.nextInt(r.nextInt(9) == 0 ? 100 : 4));
            }
            t.append(r.nextInt(8) == 0 ? " ;" : ";");
        }
        int spoils = r.nextInt(3) == 0 ? 1 + r.nextInt(2) : 0;
        for (int k = 0; k < spoils; k++) {
            spoil(r, t);
        }
        return t.toString();
    }

    private static void spoil(Random r, StringBuilder t) {
        if (t.length() == 0) {
            return;
        }
        String signs = "0123456789; ;abdnorsw" + (char) 0 + (char) 127 + "Z:/`{";
        int at = r.nextInt(t.length());
        switch (r.nextInt(4)) {
            case 0 -> t.deleteCharAt(at);
            case 1 -> t.setCharAt(at, signs.charAt(r.nextInt(signs.length())));
            case 2 -> t.insert(at, signs.charAt(r.nextInt(signs.length())));
            default -> t.setLength(at);
        }
    }
}
