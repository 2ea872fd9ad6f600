import java.io.IOException;
import java.lang.reflect.Constructor;
import java.lang.reflect.Executable;
import java.lang.reflect.Field;
import java.lang.reflect.Method;
import java.lang.reflect.Modifier;
import java.nio.file.Files;
import java.nio.file.Path;
import java.util.ArrayList;
import java.util.Arrays;
import java.util.List;
import java.util.TreeSet;
import java.util.regex.Matcher;
import java.util.regex.Pattern;

/** The class's face against the document's, and what of LANGUAGE.md can be told without running the class. */
public final class FaceTest {
    private static final Path DOCUMENT = Path.of("../shared/DOC.md");
    private static final Path SOURCE = Path.of("src/main/java/ChoirNotes.java");

    public static void main(String[] args) throws IOException {
        publicFace();
        hiddenMembers();
        sourceWords();
        callsMakeNothing();
        Check.finish();
    }

    private static void publicFace() throws IOException {
        String document = Files.readString(DOCUMENT);
        int begin = document.indexOf("public final class ChoirNotes {");
        String face = document.substring(begin, document.indexOf("```", begin));
        TreeSet<String> want = new TreeSet<>();
        Matcher line = Pattern.compile("    public (.*?)\\((.*?)\\)(.*);").matcher(face);
        while (line.find()) {
            String types = line.group(2).replaceAll("(\\w+) \\w+", "$1");
            want.add(line.group(1) + "(" + types + ")" + line.group(3));
        }
        TreeSet<String> got = new TreeSet<>();
        for (Constructor<?> c : ChoirNotes.class.getDeclaredConstructors()) {
            got.add(shown(c, "ChoirNotes"));
        }
        for (Method m : ChoirNotes.class.getDeclaredMethods()) {
            if (Modifier.isPublic(m.getModifiers())) {
                got.add(shown(m, m.getReturnType().getSimpleName() + " " + m.getName()));
            }
        }
        Check.count(want.size() == 34, "the document's face has " + want.size() + " calls");
        Check.count(want.equals(got), "the face is " + got + ", due is " + want);
        Check.count(Modifier.isFinal(ChoirNotes.class.getModifiers()), "the class is not final");
        Check.count(Modifier.isPublic(ChoirNotes.class.getModifiers()), "the class is not public");
    }

    private static String shown(Executable call, String name) {
        List<String> types = new ArrayList<>();
        for (Class<?> type : call.getParameterTypes()) {
            types.add(type.getSimpleName());
        }
        List<String> thrown = new ArrayList<>();
        for (Class<?> type : call.getExceptionTypes()) {
            thrown.add(type.getSimpleName());
        }
        String tail = thrown.isEmpty() ? "" : " throws " + String.join(", ", thrown);
        return name + "(" + String.join(", ", types) + ")" + tail;
    }

    private static void hiddenMembers() {
        TreeSet<String> open = new TreeSet<>();
        for (Method m : ChoirNotes.class.getDeclaredMethods()) {
            if (Modifier.isPublic(m.getModifiers())) {
                open.add(m.getName());
            } else {
                Check.count(Modifier.isPrivate(m.getModifiers()), m + " is neither public nor private");
            }
        }
        for (Field f : ChoirNotes.class.getDeclaredFields()) {
            Check.count(Modifier.isPrivate(f.getModifiers()), f + " is not private");
            staticsAreFinal(f);
        }
        List<Class<?>> all = new ArrayList<>(Arrays.asList(ChoirNotes.class.getDeclaredClasses()));
        for (Class<?> inside : all) {
            for (Field f : inside.getDeclaredFields()) {
                staticsAreFinal(f);
            }
        }
        all.add(ChoirNotes.class);
        for (Class<?> c : all) {
            for (Method m : c.getDeclaredMethods()) {
                boolean same = Modifier.isPrivate(m.getModifiers()) && open.contains(m.getName());
                Check.count(!same, m + " bears a public method's name");
                Check.count(m.getParameterCount() <= 7, m + " takes too much");
            }
        }
    }

    private static void staticsAreFinal(Field f) {
        boolean good = !Modifier.isStatic(f.getModifiers()) || Modifier.isFinal(f.getModifiers());
        Check.count(good, f + " is static and not final");
    }

    private static void sourceWords() throws IOException {
        String source = Files.readString(SOURCE);
        String code = source.replaceAll("(?s)/\\*.*?\\*/", "").replaceAll("//[^\n]*", "");
        for (String word : List.of("import", "package", "try", "catch", "finally", "synchronized", "assert",
                "System", "Object", "lambda", "equals", "hashCode", "toString", "protected")) {
            Check.count(!Pattern.compile("\\b" + word + "\\b").matcher(code).find(), "the source has " + word);
        }
        Check.count(!code.contains("->") && !code.contains("::"), "the source has a lambda or a method reference");
        Check.count(source.chars().allMatch(c -> c < 128), "the source has a sign that is not ASCII");
        Matcher thrown = Pattern.compile("\\bthrow\\b(?! new (IndexOutOfBounds|IllegalArgument|IllegalState)"
                + "Exception\\(\"[^\"]*\"\\);)[^\n]*").matcher(code);
        Check.count(!thrown.find(), "the source throws in another way");
        Matcher made = Pattern.compile("\\bnew (?!\\w+Exception\\()[^\n]*").matcher(code.replaceAll(
                "(?s)private final [^;]*;|book\\[i\\] = new Voice\\(\\);", ""));
        Check.count(!made.find(), "the source makes an object outside its constructors");
    }

    /** A use of a book, with every call of it (some 450 in all), makes no object: the run's room is small. */
    private static void callsMakeNothing() {
        com.sun.management.ThreadMXBean threads =
                (com.sun.management.ThreadMXBean) java.lang.management.ManagementFactory.getThreadMXBean();
        long thread = Thread.currentThread().getId();
        ChoirNotes x = new ChoirNotes();
        useAll(new ChoirNotes());
        long before = threads.getThreadAllocatedBytes(thread);
        long again = threads.getThreadAllocatedBytes(thread);
        long asking = again - before;
        before = threads.getThreadAllocatedBytes(thread);
        useAll(x);
        long made = threads.getThreadAllocatedBytes(thread) - before - asking;
        Check.count(made <= 1000, "a use of every call made objects of " + made + " bytes");
    }

    private static long useAll(ChoirNotes x) {
        long sum = x.addVoice(2, 3, 2) + x.addVoice(3, 2, 3) + x.addVoice(2, 2, 2) + x.addVoice(3, 3, 3);
        for (int v = 0; v < 4; v++) {
            for (int n = 0; n < 3; n++) {
                sum += x.addNote(v, n % 4, n, n % 2 == 0) + x.addLigature(v, 1, 2, -1, n % 3 == 0);
            }
            sum += x.addRest(v, 2) + x.setClef(v, 1 + v) + x.setMensuration(v, 3, 2, 3) + (x.recolour(v, 3) ? 1 : 0);
        }
        for (int v = 0; v < 4; v++) {
            sum += x.signs(v) + x.notes(v) + x.ligatures(v) + x.length(v) + x.signAt(v, 20) + x.clefOf(v);
            sum += x.clefsThatFit(v) + x.clashes(0, v) + x.firstClash(v, 1) + x.clashesWith(v, 3) + x.bestClef(v);
            sum += x.canonClashes(v, 7, 3) + x.bestDelay(v, 2) + x.longest() + x.digest() + (x.fits(v, 2) ? 1 : 0);
            for (int s = 0; s < x.signs(v); s++) {
                sum += x.kindOf(v, s) + x.placeOf(v, s) + x.placeInLigature(v, s) + x.lengthOf(v, s);
                sum += x.beginOf(v, s) + x.pitchOf(v, s) + (x.isColoured(v, s) ? 1 : 0);
            }
        }
        sum += (long) x.meanLength();
        for (int v = 0; v < 4; v++) {
            for (int left = x.signs(v); left > 0; left = x.signs(v)) {
                sum += x.erase(v);
            }
        }
        return sum;
    }
}
