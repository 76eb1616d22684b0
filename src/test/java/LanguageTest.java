import java.io.IOException;
import java.lang.reflect.Constructor;
import java.lang.reflect.Field;
import java.lang.reflect.Method;
import java.lang.reflect.Modifier;
import java.nio.charset.StandardCharsets;
import java.nio.file.Files;
import java.nio.file.Path;
import java.util.Arrays;
import java.util.HashSet;
import java.util.List;
import java.util.Set;
import java.util.TreeSet;
import java.util.regex.Matcher;
import java.util.regex.Pattern;

/** What can be seen of LANGUAGE.md's rules: the face by reflection, the rest in the source. */
public final class LanguageTest {
    private static final Path SOURCE = Path.of("src/main/java/PageWars.java");
    private static final Path DOCUMENT = Path.of("../shared/DOC.md");
    private static final String[] FACE = {
        "go(int)", "write(int,int,int)", "cut(int)", "back(int,int)", "half(int,int,int)",
        "shut(int,int)", "talk(int,int)", "actIs(int,int)", "as(int,int)", "word(int,int)",
        "origin(int,int)", "may(int)", "feed(long,int)", "text(int)", "untell(int)", "live(int)",
        "seed(int)", "alike(int,int)", "likeness(int,int)", "from(int)", "war(int,int)",
        "longest()", "stays(int)", "writerIs(int,int)", "read(int)", "wrong(int,int,int)",
        "hand(int,int)", "score(int,int)", "line(int,int,int)", "worth(int,int)", "value(int)",
        "best()", "got(int,int)", "voice(int,int,int)", "body(int)", "sheet(int,int,int)",
        "put(int,int,int)", "move(int,int,int,int,int)", "words(int,int)", "image()", "restore()",
        "tell(int)", "check(int)", "count(int)", "told(int)"};
    private static final int MOST_LINES = 60;
    private static final int MOST_PARAMETERS = 7;
    private static final int MOST_CLASSES = 12;
    private static final int MOST_FIELDS = 20;

    private LanguageTest() {
    }

    private static String told(Method m) {
        StringBuilder text = new StringBuilder(m.getName()).append('(');
        for (Class<?> type : m.getParameterTypes()) {
            text.append(text.charAt(text.length() - 1) == '(' ? "" : ",").append(type.getName());
        }
        return text.append(')').toString();
    }

    private static void face() {
        Due.holds("public and final", Modifier.isPublic(PageWars.class.getModifiers())
                && Modifier.isFinal(PageWars.class.getModifiers()));
        Due.holds("no package", PageWars.class.getPackageName().isEmpty());
        Due.holds("nothing above it", PageWars.class.getSuperclass() == Object.class
                && PageWars.class.getInterfaces().length == 0);
        Set<String> due = new TreeSet<>(Arrays.asList(FACE));
        Set<String> seen = new TreeSet<>();
        for (Method m : PageWars.class.getDeclaredMethods()) {
            if (Modifier.isPublic(m.getModifiers())) {
                seen.add(told(m));
                Due.holds(m.getName() + " answers an int", m.getReturnType() == int.class);
                Due.holds(m.getName() + " is of an object", !Modifier.isStatic(m.getModifiers()));
            } else {
                Due.holds(m.getName() + " is private", Modifier.isPrivate(m.getModifiers()));
            }
        }
        Due.holds("the face: " + seen, seen.equals(due));
        Constructor<?>[] constructors = PageWars.class.getDeclaredConstructors();
        Due.is("constructors", constructors.length, 1);
        Due.holds("a public one without parameters",
                Modifier.isPublic(constructors[0].getModifiers())
                && constructors[0].getParameterCount() == 0);
    }

    /** The document's own lines of the face, names of parameters and all, stand in the source. */
    private static void faceOfDocument(String source) throws IOException {
        String document = Files.readString(DOCUMENT, StandardCharsets.UTF_8);
        int begin = document.indexOf("public final class PageWars {");
        String block = document.substring(begin, document.indexOf("```", begin));
        int lines = 0;
        for (String line : block.split("\n")) {
            String head = line.trim();
            if (head.endsWith(";")) {
                String due = "\n    " + head.substring(0, head.length() - 1) + " {\n";
                Due.holds("the document's " + head, source.contains(due));
                lines++;
            }
        }
        // The constructor, too.
        Due.is("lines of the document's face", lines, FACE.length + 1);
    }

    /** The calls stand under the headings that the document gives them, in its order. */
    private static void headings(String source) throws IOException {
        Matcher m = Pattern.compile("Ahead of the calls (.*) the interface says: (---- .*)\\.\n")
                .matcher(Files.readString(DOCUMENT, StandardCharsets.UTF_8));
        int at = 0;
        int calls = 0;
        while (m.find()) {
            int heading = source.indexOf("\n    // " + m.group(2) + "\n");
            Due.holds("the heading " + m.group(2), heading > at);
            at = heading;
            for (String call : m.group(1).replace("`", "").split(", ")) {
                int next = source.indexOf("\n    public int " + call + "(");
                Due.holds(call + " under " + m.group(2), next > at);
                at = next;
                calls++;
            }
        }
        Due.is("calls under headings", calls, FACE.length);
    }

    private static Set<String> publicNames() {
        Set<String> names = new HashSet<>();
        for (String call : FACE) {
            names.add(call.substring(0, call.indexOf('(')));
        }
        return names;
    }

    private static void insideOf(Class<?> type, Set<String> names) {
        int fields = 0;
        for (Field f : type.getDeclaredFields()) {
            int bits = f.getModifiers();
            Due.holds(type.getName() + "." + f.getName() + " is private", Modifier.isPrivate(bits));
            if (Modifier.isStatic(bits)) {
                Due.holds(f.getName() + " is final", Modifier.isFinal(bits));
            } else {
                fields++;
            }
        }
        Due.holds(type.getName() + " has few fields", fields <= MOST_FIELDS);
        for (Method m : type.getDeclaredMethods()) {
            Due.holds(m.getName() + " has few parameters",
                    m.getParameterCount() <= MOST_PARAMETERS);
            if (type != PageWars.class) {
                Due.holds(m.getName() + " bears no name of the face",
                        !names.contains(m.getName()));
            }
        }
    }

    private static void inside() {
        Class<?>[] classes = PageWars.class.getDeclaredClasses();
        Due.holds("few classes", classes.length + 1 <= MOST_CLASSES);
        insideOf(PageWars.class, publicNames());
        for (Class<?> type : classes) {
            Due.holds(type.getName() + " is private, static",
                    Modifier.isPrivate(type.getModifiers())
                    && Modifier.isStatic(type.getModifiers()));
            Due.is(type.getName() + " has none inside", type.getDeclaredClasses().length, 0);
            insideOf(type, publicNames());
        }
    }

    private static String withoutComments(String source) {
        return Pattern.compile("/\\*.*?\\*/|//[^\n]*", Pattern.DOTALL).matcher(source)
                .replaceAll("");
    }

    private static void words(String code) {
        String[] barred = {"throw", "throws", "try", "catch", "finally", "synchronized", "assert",
            "System.out", "System.nanoTime", "System.currentTimeMillis", "Random", "Thread",
            "Object", "Exact", "hashCode", "toString", "volatile", "transient", "native", "var",
            "extends", "double", "float", "interface", "protected", "package"};
        for (String word : barred) {
            Due.holds("no " + word, !Pattern.compile("(?<![A-Za-z0-9_])" + Pattern.quote(word)
                    + "(?![A-Za-z0-9_])").matcher(code).find());
        }
        Due.holds("no lambda, no arrow", !code.contains("->"));
        Due.holds("no method reference", !code.contains("::"));
        Due.holds("no static block", !Pattern.compile("static\\s*\\{").matcher(code).find());
        Due.holds("plain signs alone", code.chars().allMatch(c -> c == '\n' || c >= 32 && c < 127));
        Due.holds("no import", !Pattern.compile("(?m)^import").matcher(code).find());
    }

    /** Methods by their lines: what begins at four or eight blanks and ends by a brace there. */
    private static void lengths(List<String> lines) {
        Pattern begin = Pattern.compile("^( {4}| {8})(?!private static final class)\\S.*\\(.*\\{$");
        for (int i = 0; i < lines.size(); i++) {
            Matcher m = begin.matcher(lines.get(i));
            if (m.find() && !lines.get(i).contains(" if (")) {
                int end = i;
                while (end < lines.size() && !lines.get(end).equals(m.group(1) + "}")) {
                    end++;
                }
                Due.holds(lines.get(i).trim() + " is short", end - i + 1 <= MOST_LINES);
            }
        }
    }

    public static void main(String[] args) throws IOException {
        Due.subject("LANGUAGE.md");
        face();
        inside();
        String source = Files.readString(SOURCE, StandardCharsets.UTF_8);
        faceOfDocument(source);
        headings(source);
        words(withoutComments(source));
        lengths(List.of(source.split("\n")));
        Due.ends();
    }
}
