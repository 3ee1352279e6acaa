import java.util.List;
import java.util.function.ToIntFunction;

/** What a STATE holds: any two changes are taken back and done again, and all is as it was each time. */
final class BackEdges {
    private static final int ROUNDS = 3;
    private static final List<ToIntFunction<BadgeDoors>> CHANGES = List.of(
        x -> x.door(2, 0, 0, 0),
        x -> x.badge(3),
        x -> x.sets(1, 0, 2),
        x -> x.sets(1, 1, 1),
        x -> x.sets(x.told(4) - 1, 0, 1),
        x -> x.sets(x.told(4) - 1, 1, 1),
        x -> x.locks(2, 1),
        x -> x.levels(x.told(5) - 1, 0),
        x -> x.bars(0, 1),
        x -> x.bars(x.told(5) - 1, 1),
        x -> x.online(2, 1 - x.of(2, 7)),
        x -> x.online(x.told(4) - 1, 1 - x.of(x.told(4) - 1, 7)),
        x -> x.asks(1, 2, 1),
        x -> x.asks(x.told(5) - 1, x.told(4) - 1, 1),
        x -> x.asks(0, 1, 0),
        x -> x.waits(10),
        x -> Due.read(x, "off1;on2;bar1;ask0 1;"));

    private final Edges e;

    BackEdges(Edges edges) {
        e = edges;
    }

    void look() {
        e.at("Terms", "to go back to (all but THE TEXT and how often refused)");
        for (int first = 0; first < CHANGES.size(); first++) {
            for (int second = 0; second < CHANGES.size(); second++) {
                twoChanges(first, second);
            }
        }
    }

    /** One STATE; the last DOOR is off with a NOTE, and LEVELS are just enough. */
    private static BadgeDoors house() {
        BadgeDoors x = new BadgeDoors();
        Due.read(x, "door0 1 1 1;door0 2 1 1;door0 1 1 1;badge1;badge1;off2;wait9;duress0 2;");
        return x;
    }

    private void twoChanges(int first, int second) {
        BadgeDoors x = house();
        String both = "changes " + first + " and " + second;
        long before = facts(x);
        long between = 0;
        long behind = 0;
        for (int round = 0; round < ROUNDS; round++) {
            between = doneAgain(x, first, between, both + ", one done again");
            behind = doneAgain(x, second, behind, both + ", both done again");
            takenBack(x, between, both + ", one taken back");
            takenBack(x, before, both + ", both taken back");
        }
        e.is(both + ", none refused", x.told(0) + x.told(1) + x.told(2), 0);
    }

    /** The facts behind a change, which are the same each time. */
    private long doneAgain(BadgeDoors x, int change, long lastTime, String what) {
        CHANGES.get(change).applyAsInt(x);
        long got = facts(x);
        e.is(what, got, lastTime == 0 ? got : lastTime);
        return got;
    }

    private void takenBack(BadgeDoors x, long want, String what) {
        x.back();
        e.is(what, facts(x), want);
    }

    /** What can be asked but of THE TEXT, and by asking and going back what the COPIES say. */
    private static long facts(BadgeDoors x) {
        x.clear();
        long h = x.digest();
        int doors = x.told(4);
        int last = x.told(5) - 1;
        for (int d = 0; d < doors; d++) {
            int notes = x.of(d, 10);
            for (int i = 0; i < notes; i++) {
                h = 31 * h + 100 * x.note(d, i, 0) + x.note(d, i, 1);
            }
            h = 31 * h + x.asks(0, d, 0);
            x.back();
            h = 31 * h + x.asks(last, d, 0);
            x.back();
        }
        return h;
    }
}
