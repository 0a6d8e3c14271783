import java.io.IOException;
import java.lang.reflect.Constructor;
import java.lang.reflect.Field;
import java.lang.reflect.Method;
import java.lang.reflect.Modifier;
import java.nio.file.Files;
import java.nio.file.Path;
import java.util.Set;
import java.util.TreeSet;
import java.util.regex.Matcher;
import java.util.regex.Pattern;

/** The public face is the document's and no more, and the file keeps to LANGUAGE.md where a text search can tell. */
public final class FaceTest {

    private static final Check CHECK = new Check();

    private static final Set<String> FACE = Set.of(
            "public boolean RangeDesk.exact(int,long)",
            "public boolean RangeDesk.any(int)",
            "public boolean RangeDesk.bits(int,long,long)",
            "public boolean RangeDesk.bounds(int,long,long,boolean)",
            "public boolean RangeDesk.operate(int,int,int,int,boolean)",
            "public boolean RangeDesk.holds(int,int,int,boolean)",
            "public long RangeDesk.look(int,int) throws java.lang.IndexOutOfBoundsException",
            "public boolean RangeDesk.has(int,long) throws java.lang.IndexOutOfBoundsException",
            "public boolean RangeDesk.covers(int,int) throws java.lang.IndexOutOfBoundsException");

    // Words and signs that LANGUAGE.md rules out, or that this class has no need of.
    private static final String[] RULED_OUT = {
        "\\bimport\\b", "\\bpackage\\b", "\\btry\\b", "\\bcatch\\b", "\\bfinally\\b", "\\bassert\\b",
        "\\bsynchronized\\b", "->", "::", "\\bdouble\\b", "\\bfloat\\b", "\\bObject\\b", "Math\\.\\w+Exact",
        "\\bstatic\\s*\\{", "\\bwhile\\b", "\\bSystem\\b", "\\bThread\\b", "\\bprotected\\b"};

    // What rule 4 of LANGUAGE.md names of Integer, Long and Math, and those of their like that the class uses.
    private static final Set<String> LIBRARY = Set.of(
            "compare", "max", "min", "abs", "bitCount", "floorDiv", "floorMod",
            "numberOfLeadingZeros", "numberOfTrailingZeros", "reverseBytes", "MIN_VALUE", "MAX_VALUE");

    // Made once with a desk; a call makes nothing but what it throws.
    private static final String MADE = "new (Num\\[NUMBERS\\]|Num\\(\\)|Calculation\\(\\)|Comparison\\(\\)"
            + "|IndexOutOfBoundsException\\(\"[^\"]*\"\\))";

    public static void main(String[] args) throws IOException {
        members();
        classesInside();
        source(Files.readString(Path.of("src/main/java/RangeDesk.java")));
        CHECK.end();
    }

    private static void members() {
        CHECK.due("public and final", RangeDesk.class.getModifiers(), Modifier.PUBLIC | Modifier.FINAL);
        Set<String> seen = new TreeSet<>();
        Set<String> names = new TreeSet<>();
        for (Method method : RangeDesk.class.getDeclaredMethods()) {
            if (!Modifier.isPrivate(method.getModifiers())) {
                seen.add(method.toString());
                names.add(method.getName());
            }
        }
        CHECK.due("the face is " + seen, seen.equals(FACE), true);
        for (Method method : RangeDesk.class.getDeclaredMethods()) {
            boolean hidden = Modifier.isPrivate(method.getModifiers());
            CHECK.due("private " + method, hidden && names.contains(method.getName()), false);
        }
        for (Field field : RangeDesk.class.getDeclaredFields()) {
            int flags = field.getModifiers();
            CHECK.due("private and final " + field, Modifier.isPrivate(flags) && Modifier.isFinal(flags), true);
        }
        Constructor<?>[] made = RangeDesk.class.getDeclaredConstructors();
        CHECK.due("constructors", made.length, 1);
        CHECK.due("the constructor's parameters", made[0].getParameterCount(), 0);
        CHECK.due("the constructor is public", Modifier.isPublic(made[0].getModifiers()), true);
    }

    private static void classesInside() {
        for (Class<?> inside : RangeDesk.class.getDeclaredClasses()) {
            int flags = inside.getModifiers();
            CHECK.due("static " + inside, Modifier.isStatic(flags), true);
            CHECK.due("not public " + inside, Modifier.isPublic(flags), false);
            for (Field field : inside.getDeclaredFields()) {
                boolean changing = Modifier.isStatic(field.getModifiers()) && !Modifier.isFinal(field.getModifiers());
                CHECK.due("static and not final " + field, changing, false);
            }
        }
    }

    private static void source(String text) {
        String bare = text.replaceAll("(?s)/\\*.*?\\*/", "").replaceAll("//[^\n]*", "");
        for (String sign : RULED_OUT) {
            CHECK.due("ruled out: " + sign, Pattern.compile(sign).matcher(bare).find(), false);
        }
        Matcher made = Pattern.compile("\\bnew\\b[^;]*").matcher(bare);
        while (made.find()) {
            CHECK.due("made: " + made.group(), made.group().matches(MADE), true);
        }
        Matcher used = Pattern.compile("\\b[A-Z]\\w*[a-z]\\w*\\s*\\.\\s*(\\w+)").matcher(bare);
        while (used.find()) {
            CHECK.due("not of the library's list: " + used.group(), LIBRARY.contains(used.group(1)), true);
        }
        methodLengths(bare.split("\n"));
    }

    /** A method ends at the brace that stands as far in as its first line. */
    private static void methodLengths(String[] lines) {
        Pattern first = Pattern.compile("( {4}| {8})[^ ].*\\) (throws \\w+ )?\\{");
        for (int i = 0; i < lines.length; i++) {
            Matcher head = first.matcher(lines[i]);
            if (!head.matches()) {
                continue;
            }
            int end = i;
            while (end < lines.length && !lines[end].equals(head.group(1) + "}")) {
                end++;
            }
            CHECK.due("over sixty lines: " + lines[i].trim(), end - i > 60, false);
        }
    }
}
