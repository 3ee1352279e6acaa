import java.util.ArrayDeque;
import java.util.ArrayList;
import java.util.Deque;
import java.util.LinkedHashMap;
import java.util.List;
import java.util.Map;
import java.util.regex.Matcher;
import java.util.regex.Pattern;

/**
 * The document once more, written as plainly as the Java library allows and by other means than
 * BadgeDoors: events instead of rows, whole copies, ways by trying all, faults by a pattern.
 */
final class PlainHouse {
    static final int BAD = -2, NO = -3, FULL = -4;

    private record Note(int time, int badge) { }

    private record Two(int badge, int door) { }

    private static final class Door {
        int from, to, day, night, back, pair, lock = -1, waiting = -1;
        int openAt = -1;
        boolean online = true;
        List<Note> notes = new ArrayList<>();
        List<Badge> copy = new ArrayList<>();

        Door copy() {
            Door c = new Door();
            c.from = from;
            c.to = to;
            c.day = day;
            c.night = night;
            c.back = back;
            c.pair = pair;
            c.lock = lock;
            c.waiting = waiting;
            c.openAt = openAt;
            c.online = online;
            c.notes = new ArrayList<>(notes);
            c.copy = new ArrayList<>(copy);
            return c;
        }
    }

    private static final class Badge {
        int level, in, since, alarms;
        boolean barred;

        Badge copy() {
            Badge c = new Badge();
            c.level = level;
            c.in = in;
            c.since = since;
            c.alarms = alarms;
            c.barred = barred;
            return c;
        }
    }

    private static final class State {
        List<Door> doors = new ArrayList<>();
        List<Badge> badges = new ArrayList<>();
        Map<Two, Integer> passed = new LinkedHashMap<>();
        int time, flaws, late;
        int[] not = new int[6];

        State copy() {
            State c = new State();
            for (Door d : doors) {
                c.doors.add(d.copy());
            }
            for (Badge b : badges) {
                c.badges.add(b.copy());
            }
            c.passed.putAll(passed);
            c.time = time;
            c.flaws = flaws;
            c.late = late;
            c.not = not.clone();
            return c;
        }
    }

    private State s = new State();
    private final Deque<State> kept = new ArrayDeque<>();
    private final int[] refused = new int[5];
    private final StringBuilder text = new StringBuilder();
    /** ORDERS neither keep STATES of their own nor count what is refused. */
    private boolean byOrder;

    private int refuse(int why) {
        if (!byOrder) {
            refused[-why]++;
        }
        return why;
    }

    private void keep() {
        if (!byOrder) {
            kept.addLast(s.copy());
            if (kept.size() > 4) {
                kept.removeFirst();
            }
        }
    }

    private boolean noDoor(int d) {
        return d < 0 || d >= s.doors.size();
    }

    private boolean noBadge(int b) {
        return b < 0 || b >= s.badges.size();
    }

    private static boolean out(int v, int least, int most) {
        return v < least || v > most;
    }

    int door(int from, int to, int day, int night) {
        if (out(from, 0, 5) || out(to, 0, 5) || from == to || out(day, 0, 3) || out(night, 0, 3)) {
            return refuse(BAD);
        }
        if (s.doors.size() == 8) {
            return refuse(FULL);
        }
        keep();
        Door d = new Door();
        d.from = from;
        d.to = to;
        d.day = day;
        d.night = night;
        s.doors.add(d);
        return s.doors.size() - 1;
    }

    int sets(int d, int what, int v) {
        if (noDoor(d) || out(what, 0, 1) || out(v, 0, what == 0 ? 2 : 1)) {
            return refuse(BAD);
        }
        keep();
        Door door = s.doors.get(d);
        int was = what == 0 ? door.back : door.pair;
        if (what == 0) {
            door.back = v;
        } else {
            door.pair = v;
        }
        return was;
    }

    int locks(int d, int e) {
        if (noDoor(d) || d == e || e != -1 && noDoor(e)) {
            return refuse(BAD);
        }
        keep();
        int was = s.doors.get(d).lock;
        for (Door other : s.doors) {
            if (other.lock == d || e != -1 && other.lock == e) {
                other.lock = -1;
            }
        }
        s.doors.get(d).lock = e;
        if (e != -1) {
            s.doors.get(e).lock = d;
        }
        return was;
    }

    int badge(int level) {
        if (out(level, 0, 3)) {
            return refuse(BAD);
        }
        if (s.badges.size() == 8) {
            return refuse(FULL);
        }
        keep();
        Badge b = new Badge();
        b.level = level;
        s.badges.add(b);
        return s.badges.size() - 1;
    }

    int levels(int b, int v) {
        if (noBadge(b) || out(v, 0, 3)) {
            return refuse(BAD);
        }
        keep();
        int was = s.badges.get(b).level;
        s.badges.get(b).level = v;
        return was;
    }

    int bars(int b, int is) {
        if (noBadge(b) || out(is, 0, 1)) {
            return refuse(BAD);
        }
        keep();
        int was = s.badges.get(b).barred ? 1 : 0;
        s.badges.get(b).barred = is == 1;
        return was;
    }

    int online(int d, int is) {
        if (noDoor(d) || out(is, 0, 1)) {
            return refuse(BAD);
        }
        if (s.doors.get(d).online == (is == 1)) {
            return refuse(NO);
        }
        keep();
        Door door = s.doors.get(d);
        door.online = is == 1;
        if (is == 0) {
            door.copy = new ArrayList<>();
            for (Badge b : s.badges) {
                door.copy.add(b.copy());
            }
            return 0;
        }
        List<Note> notes = door.notes;
        door.notes = new ArrayList<>();
        notes.sort((p, q) -> Integer.compare(p.time(), q.time()));
        for (Note n : notes) {
            if (n.time() >= s.badges.get(n.badge()).since) {
                move(s.badges.get(n.badge()), door, n.time());
            } else {
                s.late++;
            }
        }
        return notes.size();
    }

    private void move(Badge b, Door d, int when) {
        if (d.back > 0 && b.in != d.from) {
            s.flaws++;
        }
        b.in = d.to;
        b.since = when;
    }

    private int level(Door d) {
        int hour = s.time % 24;
        return 8 <= hour && hour < 18 ? d.day : d.night;
    }

    int asks(int b, int d, int duress) {
        if (noBadge(b) || noDoor(d) || out(duress, 0, 1)) {
            return refuse(BAD);
        }
        keep();
        Door door = s.doors.get(d);
        int why = reason(b, door);
        if (why != 0) {
            s.not[why]++;
            if (why == 5 && door.waiting == -1) {
                door.waiting = b;
            }
            return why;
        }
        s.badges.get(b).alarms += duress;
        door.openAt = s.time;
        s.passed.merge(new Two(b, d), 1, Integer::sum);
        if (!door.online) {
            if (door.notes.size() < 20) {
                door.notes.add(new Note(s.time, b));
            }
            return 0;
        }
        move(s.badges.get(b), door, s.time);
        if (door.pair == 1 && door.to != 0) {
            move(s.badges.get(door.waiting), door, s.time);
            s.passed.merge(new Two(door.waiting, d), 1, Integer::sum);
            door.waiting = -1;
        }
        return 0;
    }

    private int reason(int b, Door door) {
        if (door.lock != -1 && s.doors.get(door.lock).openAt == s.time) {
            return 1;
        }
        if (door.to == 0) {
            return 0;
        }
        if (!door.online && b >= door.copy.size()) {
            return 2;
        }
        Badge known = door.online ? s.badges.get(b) : door.copy.get(b);
        if (known.barred) {
            return 2;
        }
        if (known.level < level(door)) {
            return 3;
        }
        if (!door.online) {
            return 0;
        }
        if (door.back == 2 && known.in != door.from) {
            return 4;
        }
        return door.pair == 1 && (door.waiting == -1 || door.waiting == b) ? 5 : 0;
    }

    int waits(int n) {
        if (out(n, 1, 99)) {
            return refuse(BAD);
        }
        keep();
        s.time += n;
        for (Door d : s.doors) {
            d.waiting = -1;
        }
        return s.time % 24;
    }

    int of(int d, int what) {
        if (noDoor(d) || out(what, 0, 10)) {
            return refuse(BAD);
        }
        Door o = s.doors.get(d);
        int[] all = {o.from, o.to, o.day, o.night, o.back, o.pair, o.lock, o.online ? 1 : 0,
            o.openAt == s.time ? 1 : 0, o.waiting, o.notes.size()};
        return all[what];
    }

    int about(int b, int what) {
        if (noBadge(b) || out(what, 0, 5)) {
            return refuse(BAD);
        }
        Badge o = s.badges.get(b);
        int often = 0;
        for (Map.Entry<Two, Integer> e : s.passed.entrySet()) {
            often += e.getKey().badge() == b ? e.getValue() : 0;
        }
        int[] all = {o.level, o.barred ? 1 : 0, o.in, o.since, o.alarms, often};
        return all[what];
    }

    int note(int d, int i, int what) {
        if (noDoor(d) || i < 0 || out(what, 0, 1)) {
            return refuse(BAD);
        }
        List<Note> notes = s.doors.get(d).notes;
        if (i >= notes.size()) {
            return -1;
        }
        return what == 0 ? notes.get(i).time() : notes.get(i).badge();
    }

    int inside(int area, int what) {
        if (out(area, 0, 5) || out(what, 0, 1)) {
            return refuse(BAD);
        }
        int sum = 0;
        for (int b = 0; b < s.badges.size(); b++) {
            if (s.badges.get(b).in == area) {
                sum += what == 0 ? 1 : (int) Math.pow(2, b);
            }
        }
        return sum;
    }

    int muster(int area) {
        if (out(area, 0, 5)) {
            return refuse(BAD);
        }
        int sum = 0;
        for (int other = 1; other < 6; other++) {
            sum += other == area ? 0 : inside(other, 1);
        }
        return sum;
    }

    int way(int b, int a, int c, int i) {
        if (noBadge(b) || out(a, 0, 5) || out(c, 0, 5) || a == c || i < -1) {
            return refuse(BAD);
        }
        for (int many = 1; many <= 5; many++) {
            List<Integer> doors = new ArrayList<>();
            if (find(b, a, c, many, doors)) {
                return i == -1 ? many : i < many ? doors.get(i) : -5;
            }
        }
        return -5;
    }

    private boolean find(int b, int a, int c, int many, List<Integer> doors) {
        if (many == 0) {
            return a == c;
        }
        Badge badge = s.badges.get(b);
        for (int d = 0; d < s.doors.size(); d++) {
            Door door = s.doors.get(d);
            boolean may = door.to == 0 || !badge.barred && badge.level >= level(door);
            if (door.from != a || !may) {
                continue;
            }
            doors.add(d);
            if (find(b, door.to, c, many - 1, doors)) {
                return true;
            }
            doors.remove(doors.size() - 1);
        }
        return false;
    }

    int passed(int i, int what) {
        if (i < 0 || out(what, 0, 2)) {
            return refuse(BAD);
        }
        List<Two> twos = new ArrayList<>(s.passed.keySet());
        if (i >= twos.size()) {
            return -1;
        }
        Two two = twos.get(i);
        return what == 0 ? two.badge() : what == 1 ? two.door() : s.passed.get(two);
    }

    int count(int what) {
        if (out(what, 0, 11)) {
            return refuse(BAD);
        }
        int alarms = 0;
        for (Badge b : s.badges) {
            alarms += b.alarms;
        }
        int often = 0;
        for (int times : s.passed.values()) {
            often += times;
        }
        int[] all = {s.time, s.time % 24, s.flaws, s.late, alarms, often,
            s.not[1], s.not[2], s.not[3], s.not[4], s.not[5], s.passed.size()};
        return all[what];
    }

    int type(int c) {
        if (out(c, 0, 127)) {
            return refuse(BAD);
        }
        if (text.length() == 150) {
            return refuse(FULL);
        }
        text.append((char) c);
        return text.length();
    }

    int clear() {
        int had = text.length();
        text.setLength(0);
        return had;
    }

    private static final String N = " *[0-9]{1,2}", NN = N + " +[0-9]{1,2}", NNNN = NN + " +[0-9]{1,2} +[0-9]{1,2}";
    private static final String ORDER =
        " *(?:(?:badge|wait|off|on|bar)" + N + "|(?:ask|duress)" + NN + "|door" + NNNN + ") *;";
    private static final Pattern TEXT = Pattern.compile("(?:" + ORDER + ")+ *");
    private static final Pattern WORD = Pattern.compile("badge|wait|off|on|bar|ask|duress|door");

    private static boolean letter(String t, int i) {
        return i >= 0 && i < t.length() && t.charAt(i) >= 'a' && t.charAt(i) <= 'z';
    }

    /** The place of the FAULT, or -1. */
    static int fault(String t) {
        if (TEXT.matcher(t).matches()) {
            return -1;
        }
        int place = 0;
        while (place < t.length() && viable(t.substring(0, place + 1))) {
            place++;
        }
        int start = place;
        while (letter(t, start - 1)) {
            start--;
        }
        int end = start;
        while (letter(t, end)) {
            end++;
        }
        boolean none = start < end && !WORD.matcher(t.substring(start, end)).matches();
        return none ? start : place;
    }

    private static boolean viable(String begin) {
        Matcher m = TEXT.matcher(begin);
        return m.matches() || m.hitEnd();
    }

    int reads() {
        int fault = fault(text.toString());
        if (fault != -1) {
            return -10 - fault;
        }
        keep();
        byOrder = true;
        int done = 0;
        for (String order : text.toString().split(";")) {
            if (!order.isBlank() && order(order.trim()) >= 0) {
                done++;
            }
        }
        byOrder = false;
        return done;
    }

    private int order(String order) {
        String word = order.replaceAll("[^a-z]", "");
        String[] figures = order.replaceAll("[a-z]", " ").trim().split(" +");
        int[] n = new int[figures.length];
        for (int i = 0; i < n.length; i++) {
            n[i] = Integer.parseInt(figures[i]);
        }
        return switch (word) {
            case "badge" -> badge(n[0]);
            case "door" -> door(n[0], n[1], n[2], n[3]);
            case "ask" -> asks(n[0], n[1], 0);
            case "duress" -> asks(n[0], n[1], 1);
            case "wait" -> waits(n[0]);
            case "off" -> online(n[0], 0);
            case "on" -> online(n[0], 1);
            default -> bars(n[0], 1);
        };
    }

    int back() {
        if (kept.isEmpty()) {
            return refuse(NO);
        }
        s = kept.removeLast();
        return kept.size();
    }

    int told(int what) {
        if (out(what, 0, 6)) {
            return refuse(BAD);
        }
        int[] all = {refused[2], refused[3], refused[4], text.length(), s.doors.size(), s.badges.size(), kept.size()};
        return all[what];
    }

    long digest() {
        long h = 2437;
        for (int what = 0; what < 7; what++) {
            h = 31 * h + told(what);
        }
        for (int d = 0; d < s.doors.size(); d++) {
            for (int what = 0; what < 11; what++) {
                h = 31 * h + of(d, what);
            }
        }
        for (int b = 0; b < s.badges.size(); b++) {
            for (int what = 0; what < 6; what++) {
                h = 31 * h + about(b, what);
            }
        }
        for (int what = 0; what < 12; what++) {
            h = 31 * h + count(what);
        }
        for (int i = 0; i < s.passed.size(); i++) {
            for (int what = 0; what < 3; what++) {
                h = 31 * h + passed(i, what);
            }
        }
        return h;
    }
}
