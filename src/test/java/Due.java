/** Compares answers with those that are due; every test ends with end(). */
final class Due {
    private int wrong;
    private int looked;

    void is(String call, long got, long want) {
        looked++;
        if (got != want) {
            wrong++;
            System.out.println(call + " answered " + got + ", due is " + want);
        }
    }

    void yes(String what, boolean holds) {
        looked++;
        if (!holds) {
            wrong++;
            System.out.println("does not hold: " + what);
        }
    }

    int wrong() {
        return wrong;
    }

    /** A house with DOORS from OUTSIDE to 1 that all may pass, and BADGES of LEVEL 0. */
    static BadgeDoors house(int doors, int badges) {
        BadgeDoors x = new BadgeDoors();
        for (int d = 0; d < doors; d++) {
            x.door(0, 1, 0, 0);
        }
        for (int b = 0; b < badges; b++) {
            x.badge(0);
        }
        return x;
    }

    /** Types a text anew. */
    static void type(BadgeDoors x, String text) {
        x.clear();
        for (int i = 0; i < text.length(); i++) {
            x.type(text.charAt(i));
        }
    }

    static int read(BadgeDoors x, String text) {
        type(x, text);
        return x.reads();
    }

    /** The digest as it is due by what the other calls answer. */
    static long digestByCalls(BadgeDoors x) {
        long h = 2437;
        for (int what = 0; what < 7; what++) {
            h = 31 * h + x.told(what);
        }
        int doors = x.told(4);
        for (int d = 0; d < doors; d++) {
            for (int what = 0; what < 11; what++) {
                h = 31 * h + x.of(d, what);
            }
        }
        int badges = x.told(5);
        for (int b = 0; b < badges; b++) {
            for (int what = 0; what < 6; what++) {
                h = 31 * h + x.about(b, what);
            }
        }
        for (int what = 0; what < 12; what++) {
            h = 31 * h + x.count(what);
        }
        int twos = x.count(11);
        for (int i = 0; i < twos; i++) {
            for (int what = 0; what < 3; what++) {
                h = 31 * h + x.passed(i, what);
            }
        }
        return h;
    }

    void end() {
        System.out.println(wrong == 0 ? looked + " answers as due" : wrong + " of " + looked + " answers are not as due");
        if (wrong != 0) {
            System.exit(1);
        }
    }
}
