import java.io.IOException;
import java.nio.file.Files;
import java.nio.file.Path;
import java.util.ArrayList;
import java.util.List;
import java.util.function.IntSupplier;
import java.util.function.ToIntFunction;
import java.util.regex.Matcher;
import java.util.regex.Pattern;

/**
 * Answers that are due at the document's edges. Each edge is named by its section and by the words
 * that tell it, so that it can be seen which sentence has a test, and which has none.
 */
final class Edges {
    private static final int PROMISES = 24;
    private static final int MOST_INT = Integer.MAX_VALUE;
    private static final String[] NAME_NO_EDGE = {"ASKING by a BADGE at a DOOR that is ONLINE",
        "At a DOOR that is not ONLINE", "MERGING, when a DOOR is ONLINE again", "for each", "======== 2 PASSED",
        "DURESS", "MUSTER", "WAY of a BADGE from an AREA to another one", "STATES"};

    private final Due due = new Due();
    private final String document;
    private final List<String> sections = new ArrayList<>();
    private final List<String> told = new ArrayList<>();
    private String edge = "";

    Edges() throws IOException {
        document = Files.readString(Path.of("../shared/DOC.md"));
    }

    /** The answers looked at from here on are due by these words of the document. */
    void at(String section, String words) {
        edge = section + ", '" + words + "': ";
        due.yes(edge + "stands in the document", body(section).contains(words));
        sections.add(section);
        told.add(words);
    }

    void is(String call, long got, long want) {
        due.is(edge + call, got, want);
    }

    /** A refused call: nothing but how often is other than before, and that by one. */
    void refused(BadgeDoors x, String call, int why, IntSupplier doing) {
        long before = x.digest();
        is(call, doing.getAsInt(), why);
        int place = BadgeDoors.BAD - why;
        is(call + " changes nothing but how often", x.digest(), before + oneMoreAt(x, place));
    }

    /** A question that is not refused. */
    void asked(BadgeDoors x, String call, int want, IntSupplier doing) {
        long before = x.digest();
        is(call, doing.getAsInt(), want);
        is(call + " changes nothing", x.digest(), before);
    }

    /** A call told S: going back brings all as it was, but for a fifth STATE, which is lost. */
    void leavesState(BadgeDoors x, String call, int want, IntSupplier doing) {
        long before = x.digest();
        int states = x.told(6);
        is(call, doing.getAsInt(), want);
        is(call + " leaves a STATE", x.told(6), Math.min(states + 1, 4));
        is(call + " can be taken back", x.back(), Math.min(states, 3));
        is(call + " is taken back", x.digest(), states < 4 ? before : before - oneMoreAt(x, 6));
    }

    /**
     * Each number in turn is one less than the least, one more than the most, and as far out as an
     * int goes; the others are the least. A most of Integer.MAX_VALUE is none.
     */
    void badNumbers(BadgeDoors x, int[][] leastAndMost, ToIntFunction<int[]> call) {
        for (int k = 0; k < leastAndMost.length; k++) {
            int least = leastAndMost[k][0];
            int most = leastAndMost[k][1];
            bad(x, leastAndMost, k, least - 1, call);
            bad(x, leastAndMost, k, Integer.MIN_VALUE, call);
            if (most != MOST_INT) {
                bad(x, leastAndMost, k, most + 1, call);
                bad(x, leastAndMost, k, MOST_INT, call);
            }
        }
    }

    private void bad(BadgeDoors x, int[][] leastAndMost, int k, int v, ToIntFunction<int[]> call) {
        int[] n = new int[leastAndMost.length];
        for (int i = 0; i < n.length; i++) {
            n[i] = leastAndMost[i][0];
        }
        n[k] = v;
        refused(x, "number " + k + " is " + v, BadgeDoors.BAD, () -> call.applyAsInt(n));
    }

    /** What the digest is more by, if told(place) is one more. */
    private static long oneMoreAt(BadgeDoors x, int place) {
        int values = 7 + 11 * x.told(4) + 6 * x.told(5) + 12 + 3 * x.count(11);
        long more = 1;
        for (int k = place + 1; k < values; k++) {
            more *= 31;
        }
        return more;
    }

    private String body(String section) {
        String head = "\n## " + section + (section.startsWith("Promise") ? ":" : "\n");
        int start = document.indexOf(head);
        if (start < 0) {
            return "";
        }
        int first = document.indexOf('\n', start + 1);
        int end = document.indexOf("\n## ", first);
        return document.substring(first, end < 0 ? document.length() : end).replaceAll("\\s+", " ");
    }

    /** The section with a dot for each sign that an edge here quotes. */
    private String untold(String section) {
        String text = body(section);
        StringBuilder left = new StringBuilder(text);
        for (int k = 0; k < told.size(); k++) {
            String words = "(?<![A-Za-z])" + Pattern.quote(told.get(k)) + "(?![A-Za-z])";
            Matcher m = Pattern.compile(words).matcher(text);
            while (sections.get(k).equals(section) && m.find()) {
                left.replace(m.start(), m.end(), ".".repeat(m.end() - m.start()));
            }
        }
        return left.toString();
    }

    /** What is left of the promises is nothing, what is left of the terms only leads to their edges. */
    private void everySentenceIsTold() {
        for (int p = 1; p <= PROMISES; p++) {
            String section = "Promise " + p;
            String left = untold(section).replaceFirst("^ `[^`]*`:", "").replaceAll("[ .;]+", " ").trim();
            due.yes(section + ", '" + left + "' has a test", left.isEmpty());
        }
        String left = untold("Terms").replaceAll("Ahead of the calls [^.]*", "").replaceAll("```(text)?", "");
        for (String words : left.split("\\.+")) {
            String bare = words.replaceAll("^[ ,;:]+|[ ,;:]+$", "");
            due.yes("Terms, '" + bare + "' has a test", bare.isEmpty() || List.of(NAME_NO_EDGE).contains(bare));
        }
    }

    void end() {
        everySentenceIsTold();
        System.out.println(told.size() + " edges of the document");
        due.end();
    }
}
