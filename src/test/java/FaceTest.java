import java.io.IOException;
import java.lang.reflect.Constructor;
import java.lang.reflect.Field;
import java.lang.reflect.Method;
import java.lang.reflect.Modifier;
import java.nio.file.Files;
import java.nio.file.Path;
import java.util.Random;
import java.util.Set;
import java.util.TreeSet;
import java.util.regex.Matcher;
import java.util.regex.Pattern;

/** The public face is the document's and no more, the source keeps to LANGUAGE.md, no call throws. */
public final class FaceTest {
    private static final Due due = new Due();
    private static final String[] FACE = {
        "int door(int,int,int,int)", "int sets(int,int,int)", "int locks(int,int)", "int badge(int)",
        "int levels(int,int)", "int bars(int,int)", "int online(int,int)", "int asks(int,int,int)",
        "int waits(int)", "int of(int,int)", "int about(int,int)", "int note(int,int,int)",
        "int inside(int,int)", "int muster(int)", "int way(int,int,int,int)", "int passed(int,int)",
        "int count(int)", "int type(int)", "int clear()", "int reads()", "int back()", "int told(int)",
        "long digest()"};

    public static void main(String[] args) throws IOException, ReflectiveOperationException {
        methods();
        fieldsAndConstructors();
        nestedClasses();
        source();
        neverThrows();
        due.end();
    }

    private static void methods() {
        Set<String> open = new TreeSet<>();
        Set<String> names = new TreeSet<>();
        for (Method m : BadgeDoors.class.getDeclaredMethods()) {
            if (!Modifier.isPrivate(m.getModifiers())) {
                StringBuilder face = new StringBuilder();
                for (Class<?> p : m.getParameterTypes()) {
                    face.append(face.length() == 0 ? "" : ",").append(p);
                }
                open.add(m.getReturnType() + " " + m.getName() + "(" + face + ")");
                names.add(m.getName());
                due.yes(m + " is public and of the object", m.getModifiers() == Modifier.PUBLIC);
            }
        }
        due.yes("the methods are the document's: " + open, open.equals(new TreeSet<>(Set.of(FACE))));
        for (Method m : BadgeDoors.class.getDeclaredMethods()) {
            due.yes(m + " has a name of its own", !Modifier.isPrivate(m.getModifiers()) || !names.contains(m.getName()));
        }
        for (Class<?> c : BadgeDoors.class.getDeclaredClasses()) {
            for (Method m : c.getDeclaredMethods()) {
                due.yes(m + " has a name of its own", !names.contains(m.getName()));
                due.yes(m + " takes at most seven", m.getParameterCount() <= 7);
            }
        }
    }

    private static void fieldsAndConstructors() throws ReflectiveOperationException {
        Set<String> open = new TreeSet<>();
        for (Field f : BadgeDoors.class.getDeclaredFields()) {
            if (!Modifier.isPrivate(f.getModifiers())) {
                open.add(f.getName());
                due.is(f.getName() + "'s kind", f.getModifiers(), Modifier.PUBLIC | Modifier.STATIC | Modifier.FINAL);
            }
            due.yes(f + " is final, if static", !Modifier.isStatic(f.getModifiers()) || Modifier.isFinal(f.getModifiers()));
        }
        due.yes("the constants are the document's", open.equals(Set.of("NONE", "BAD", "NO", "FULL")));
        due.is("NONE", BadgeDoors.class.getField("NONE").getInt(null), -1);
        due.is("BAD", BadgeDoors.class.getField("BAD").getInt(null), -2);
        due.is("NO", BadgeDoors.class.getField("NO").getInt(null), -3);
        due.is("FULL", BadgeDoors.class.getField("FULL").getInt(null), -4);
        Constructor<?>[] all = BadgeDoors.class.getDeclaredConstructors();
        due.is("constructors", all.length, 1);
        due.is("its parameters", all[0].getParameterCount(), 0);
        due.is("its kind", all[0].getModifiers(), Modifier.PUBLIC);
        due.is("the class's kind", BadgeDoors.class.getModifiers(), Modifier.PUBLIC | Modifier.FINAL);
    }

    private static void nestedClasses() {
        Class<?>[] all = BadgeDoors.class.getDeclaredClasses();
        due.yes("some twelve classes at most", all.length <= 11);
        for (Class<?> c : all) {
            due.yes(c + " is static", Modifier.isStatic(c.getModifiers()));
            due.yes(c + " is not open", !Modifier.isPublic(c.getModifiers()) && !Modifier.isProtected(c.getModifiers()));
            int fields = 0;
            for (Field f : c.getDeclaredFields()) {
                fields += Modifier.isStatic(f.getModifiers()) ? 0 : 1;
            }
            due.yes(c + " has some twenty fields at most", fields <= 20);
        }
    }

    private static void source() throws IOException {
        String source = Files.readString(Path.of("src/main/java/BadgeDoors.java"));
        String code = source.replaceAll("(?s)/\\*.*?\\*/", " ").replaceAll("//[^\n]*", " ");
        String banned = "\\b(throw|throws|try|catch|synchronized|assert|import|package|Random|System\\.(?!arraycopy)\\w+"
            + "|double|float|Exact|hashCode|toString)\\b|->|::";
        Matcher m = Pattern.compile(banned).matcher(code);
        due.yes("no word that LANGUAGE.md rules out", !m.find());
        for (int i = 0; i < source.length(); i++) {
            due.yes("signs 1 to 127 at " + i, source.charAt(i) > 0 && source.charAt(i) < 128);
        }
        // Every row is made in a constructor or beside its field, so that the calls make none.
        Matcher made = Pattern.compile("(?m)^.*\\bnew\\b.*$").matcher(code);
        while (made.find()) {
            String line = made.group().trim();
            due.yes("made once: " + line, line.startsWith("final ") || line.startsWith("private final ")
                || line.matches("(now|kept|kept\\[i\\]|text|route) = new .*"));
        }
    }

    /** Far more calls than the document promises answers for, with any numbers at all. */
    private static void neverThrows() {
        Random r = new Random(7);
        BadgeDoors x = new BadgeDoors();
        String words = "badge1;door0 1 2 3;ask0 0;duress1 1;wait99;off0;on0;bar1; ";
        for (int k = 0; k < 400000; k++) {
            int[] n = new int[4];
            for (int i = 0; i < 4; i++) {
                n[i] = r.nextInt(12) == 0 ? r.nextInt() : r.nextInt(11) - 2;
            }
            call(x, r.nextInt(26), n, words.charAt(r.nextInt(words.length())));
        }
        due.yes("it still answers", x.told(0) > 0);
    }

    private static long call(BadgeDoors x, int which, int[] n, char c) {
        return switch (which) {
            case 0 -> x.door(n[0], n[1], n[2], n[3]);
            case 1 -> x.sets(n[0], n[1], n[2]);
            case 2 -> x.locks(n[0], n[1]);
            case 3 -> x.badge(n[0]);
            case 4 -> x.levels(n[0], n[1]);
            case 5 -> x.bars(n[0], n[1]);
            case 6 -> x.online(n[0], n[1]);
            case 7 -> x.asks(n[0], n[1], n[2]);
            case 8 -> x.waits(n[0]);
            case 9 -> x.of(n[0], n[1]);
            case 10 -> x.about(n[0], n[1]);
            case 11 -> x.note(n[0], n[1], n[2]);
            case 12 -> x.inside(n[0], n[1]);
            case 13 -> x.muster(n[0]);
            case 14 -> x.way(n[0], n[1], n[2], n[3]);
            case 15 -> x.passed(n[0], n[1]);
            case 16 -> x.count(n[0]);
            case 17 -> x.type(n[0]);
            case 18 -> n[0] == 0 ? x.clear() : 0;
            case 19 -> x.reads();
            case 20 -> x.back();
            case 21 -> x.told(n[0]);
            case 22 -> x.digest();
            case 23 -> Due.read(x, "badge1;door0 1 2 3;ask0 0;duress1 1;wait99;off0;ask 1 0;on0;bar1; ");
            default -> x.type(c);
        };
    }
}
