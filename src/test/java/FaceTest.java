import java.io.IOException;
import java.lang.reflect.Constructor;
import java.lang.reflect.Field;
import java.lang.reflect.Method;
import java.lang.reflect.Modifier;
import java.nio.file.Files;
import java.nio.file.Path;
import java.util.ArrayList;
import java.util.List;
import java.util.Set;
import java.util.TreeSet;
import java.util.regex.Matcher;
import java.util.regex.Pattern;

/** The public face of the document, and those rules of LANGUAGE.md that a test can see. */
public final class FaceTest {
    private static final Check check = new Check("FaceTest");

    private static final String[] CALLS = {"int sheet 3", "int set 3", "int copy 5", "int drop 1", "int room 2", "int bend 2",
        "int told 1", "int thing 3", "int move 4", "int picture 2", "int focused 2", "int bent 0", "int mark 4", "int rub 2",
        "int draw 1", "int marked 3", "int joined 3", "int round 2", "int around 3", "int stand 5", "long far 3", "long high 3",
        "long span 4", "int studio 7", "int studios 6", "int spot 4", "int days 4", "int kind 1", "int as 2", "int ask 2",
        "int trace 1", "int count 1", "int status 0"};

    private static final Set<Class<?>> CONSTANTS = Set.of(int.class, long.class, boolean.class, char.class, String.class,
        int[].class, long[].class, char[].class, byte[].class);

    public static void main(String[] args) throws IOException {
        calls();
        constants();
        nothingElseIsSeen();
        classesInside();
        words(source());
        lengths(source());
        check.end();
    }

    private static void calls() {
        Set<String> due = new TreeSet<>(List.of(CALLS));
        Set<String> have = new TreeSet<>();
        for (Method m : Face.CALLS) {
            have.add(m.getReturnType() + " " + m.getName() + " " + m.getParameterCount());
            check.due(m.getName() + " is no static method", !Modifier.isStatic(m.getModifiers()));
            for (Class<?> p : m.getParameterTypes()) {
                check.due(m.getName() + " takes ints", p == int.class);
            }
        }
        check.due("the calls are " + have, have.equals(due));
        check.due("the class is public and final", Modifier.isPublic(LensTable.class.getModifiers())
            && Modifier.isFinal(LensTable.class.getModifiers()));
        Constructor<?>[] made = LensTable.class.getDeclaredConstructors();
        check.due("one constructor", made.length, 1);
        check.due("it is public, of no number", Modifier.isPublic(made[0].getModifiers()) && made[0].getParameterCount() == 0);
    }

    private static void constants() {
        check.due("NONE", LensTable.NONE, -1000000);
        check.due("BAD", LensTable.BAD, -1000001);
        check.due("STATE", LensTable.STATE, -1000002);
        check.due("FULL", LensTable.FULL, -1000003);
    }

    private static void nothingElseIsSeen() {
        Set<String> seen = new TreeSet<>();
        for (Field f : LensTable.class.getDeclaredFields()) {
            if (!Modifier.isPrivate(f.getModifiers())) {
                seen.add(f.getName());
            }
        }
        check.due("fields that are seen: " + seen, seen.equals(Set.of("NONE", "BAD", "STATE", "FULL")));
        for (Method m : LensTable.class.getDeclaredMethods()) {
            boolean isPublic = Modifier.isPublic(m.getModifiers());
            check.due(m.getName() + " is public or private", isPublic || Modifier.isPrivate(m.getModifiers()));
        }
    }

    private static void classesInside() {
        List<Class<?>> all = new ArrayList<>(List.of(LensTable.class.getDeclaredClasses()));
        all.add(LensTable.class);
        check.due("at most twelve classes", all.size() <= 12);
        Set<String> callNames = new TreeSet<>();
        for (Method m : Face.CALLS) {
            callNames.add(m.getName());
        }
        for (Class<?> c : all) {
            check.due(c + " is static", c == LensTable.class || Modifier.isStatic(c.getModifiers()));
            int fields = 0;
            for (Field f : c.getDeclaredFields()) {
                boolean isStatic = Modifier.isStatic(f.getModifiers());
                check.due(c + " " + f.getName() + ": static fields are final", !isStatic || Modifier.isFinal(f.getModifiers()));
                check.due(c + " " + f.getName() + ": static fields are constants", !isStatic || CONSTANTS.contains(f.getType()));
                fields += isStatic ? 0 : 1;
            }
            check.due(c + " has at most twenty fields", fields <= 20);
            for (Method m : c.getDeclaredMethods()) {
                check.due(c + " " + m.getName() + " takes at most seven", m.getParameterCount() <= 7);
                boolean own = !Modifier.isPublic(m.getModifiers()) || c != LensTable.class;
                check.due(c + " " + m.getName() + " bears no public name", !own || !callNames.contains(m.getName()));
            }
        }
    }

    private static String source() throws IOException {
        String text = Files.readString(Path.of("src/main/java/LensTable.java"));
        return text.replaceAll("(?s)/\\*.*?\\*/", "").replaceAll("//[^\n]*", "");
    }

    private static void words(String source) {
        String[] never = {"throw", "throws", "try", "catch", "finally", "synchronized", "assert", "import", "package", "double",
            "float", "System\\.(?!arraycopy)", "protected", "volatile", "native", "hashCode", "toString", "->", "::", "@",
            "Exact", "\\w+_VALUE", "static \\{", "Random", "Thread", "instanceof"};
        for (String word : never) {
            String whole = Character.isLetter(word.charAt(0)) ? "\\b" + word : word;
            if (Character.isLetter(word.charAt(word.length() - 1))) {
                whole += "\\b";
            }
            Matcher m = Pattern.compile(whole).matcher(source);
            check.due("no " + word, !m.find());
        }
        Matcher divided = Pattern.compile("[^/*]/[^/*]|%").matcher(source);
        while (divided.find()) {
            String line = lineAt(source, divided.start());
            boolean seen = line.contains("b == 0 ?") || line.contains("(many - 1) / 2");
            check.due("the divisor is looked at: " + line.trim(), seen);
        }
    }

    private static String lineAt(String text, int at) {
        int end = text.indexOf('\n', at + 1);
        return text.substring(text.lastIndexOf('\n', at) + 1, end < 0 ? text.length() : end);
    }

    /** A method's lines go from one that opens it to the brace that stands as deep. */
    private static void lengths(String source) {
        String[] lines = source.split("\n");
        for (int i = 0; i < lines.length; i++) {
            Matcher m = Pattern.compile("^( +)(public|private)[^=;]*\\) \\{$").matcher(lines[i]);
            if (m.find()) {
                int end = i;
                while (end < lines.length && !lines[end].equals(m.group(1) + "}")) {
                    end++;
                }
                check.due("sixty lines at most: " + lines[i].trim(), end - i + 1 <= 60);
            }
        }
    }
}
