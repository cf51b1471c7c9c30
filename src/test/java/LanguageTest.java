import java.io.IOException;
import java.lang.reflect.Constructor;
import java.lang.reflect.Field;
import java.lang.reflect.Method;
import java.lang.reflect.Modifier;
import java.nio.file.Files;
import java.nio.file.Path;
import java.util.Set;
import java.util.TreeSet;
import java.util.regex.Matcher;
import java.util.regex.Pattern;

/** What of LANGUAGE.md can be seen from outside: the face, the words that may not stand in the source. */
public final class LanguageTest {
    private static final Set<String> FACE = Set.of("int road(int,int,int)", "int town(int,int)", "int letters(long)",
        "int blank()", "int fault()", "int births()", "int birth(int,int)", "int as(int,int)", "int about(int,int)",
        "int touch(int,int)", "int forget()", "int felt(int,int,int)", "long surely(int,int,int,int)", "int over()",
        "int soonest(int,int)", "int unseen(int,int,int)", "int kept(int,int)", "int words(int,int,int)",
        "int least(int,int,int)", "int missed(int,int,int)", "int book(int)", "long read(int,int,int,int)",
        "int crowd(int)", "int wince(int,int)", "int pairings()", "int twin(int)", "long round(int,int,int)",
        "int image()", "int restore()", "int count(int)", "long digest()");
    private static final Set<String> CONSTANTS = Set.of("NONE", "UNKNOWN", "OUTSIDE", "STATE", "FULL");
    private static final Pattern FORBIDDEN = Pattern.compile(
        "\\b(throw|throws|try|catch|synchronized|assert|protected|native|volatile|package)\\b|->|::|Exact\\(");
    // Of the library, what rule 4 lists and the class needs; all other names are its own.
    private static final Set<String> LIBRARY = Set.of("Math.min", "Math.max", "Integer.bitCount", "Arrays.fill",
        "System.arraycopy");
    private static final int LONGEST_METHOD = 60;
    private static final Check check = new Check();

    public static void main(String[] args) throws IOException {
        face();
        nested();
        source(Files.readString(Path.of("src/main/java/FeltByTwin.java")));
        check.end();
    }

    private static void face() {
        Set<String> methods = new TreeSet<>();
        Set<String> names = new TreeSet<>();
        for (Method method : FeltByTwin.class.getDeclaredMethods()) {
            if (Modifier.isPublic(method.getModifiers())) {
                StringBuilder told = new StringBuilder(method.getReturnType() + " " + method.getName() + "(");
                for (Class<?> type : method.getParameterTypes()) {
                    told.append(told.charAt(told.length() - 1) == '(' ? "" : ",").append(type);
                }
                methods.add(told.append(")").toString());
                names.add(method.getName());
            }
        }
        check.holds("the methods are those of the document: " + methods, methods.equals(new TreeSet<>(FACE)));
        for (Method method : FeltByTwin.class.getDeclaredMethods()) {
            int modifiers = method.getModifiers();
            check.holds(method + " is public or private", Modifier.isPublic(modifiers) || Modifier.isPrivate(modifiers));
            check.holds(method + " has a name of its own", Modifier.isPublic(modifiers) || !names.contains(method.getName()));
        }
        for (Field field : FeltByTwin.class.getDeclaredFields()) {
            int modifiers = field.getModifiers();
            boolean isPublic = CONSTANTS.contains(field.getName());
            check.holds(field + " is as told", isPublic ? Modifier.isPublic(modifiers) : Modifier.isPrivate(modifiers));
        }
        Constructor<?>[] constructors = FeltByTwin.class.getDeclaredConstructors();
        check.holds("one constructor", constructors.length == 1 && Modifier.isPublic(constructors[0].getModifiers()));
        check.holds("the class is public and final", Modifier.isPublic(FeltByTwin.class.getModifiers())
            && Modifier.isFinal(FeltByTwin.class.getModifiers()));
    }

    private static void nested() {
        Class<?>[] inside = FeltByTwin.class.getDeclaredClasses();
        check.holds("at most twelve classes", inside.length + 1 <= 12);
        members(FeltByTwin.class);
        for (Class<?> one : inside) {
            check.holds(one + " is static", Modifier.isStatic(one.getModifiers()));
            members(one);
        }
    }

    private static void members(Class<?> one) {
        int fields = 0;
        for (Field field : one.getDeclaredFields()) {
            int modifiers = field.getModifiers();
            check.holds(field + " is final if static", !Modifier.isStatic(modifiers) || Modifier.isFinal(modifiers));
            fields += Modifier.isStatic(modifiers) ? 0 : 1;
        }
        check.holds(one + " has at most twenty fields beside its constants", fields <= 20);
        for (Method method : one.getDeclaredMethods()) {
            check.holds(method + " has seven parameters at most", method.getParameterCount() <= 7);
        }
    }

    private static void source(String text) {
        String code = text.replaceAll("(?s)/\\*.*?\\*/", "").replaceAll("//[^\n]*", "");
        Matcher matcher = FORBIDDEN.matcher(code);
        while (matcher.find()) {
            check.holds("no " + matcher.group(), false);
        }
        Matcher imports = Pattern.compile("import ([^;]+);").matcher(code);
        while (imports.find()) {
            check.holds("import " + imports.group(1) + " is allowed", imports.group(1).equals("java.util.Arrays"));
        }
        check.holds("the code is plain ASCII", text.chars().allMatch(c -> c < 128));
        check.holds("no text, so none is joined", code.indexOf('"') < 0);
        check.holds("no float, no double", !Pattern.compile("\\b(float|double)\\b").matcher(code).find());
        library(code);
        room(code);
        methodsAreShort(text);
    }

    private static void library(String code) {
        Set<String> own = new TreeSet<>();
        own.add("FeltByTwin");
        for (Class<?> one : FeltByTwin.class.getDeclaredClasses()) {
            own.add(one.getSimpleName());
        }
        Matcher names = Pattern.compile("\\b([A-Z]\\w*[a-z]\\w*)(\\.\\w+)?").matcher(code.replaceAll("import [^;]+;", ""));
        while (names.find()) {
            boolean isOwn = own.contains(names.group(1));
            check.holds(names.group() + " may be used", isOwn || LIBRARY.contains(names.group()));
        }
    }

    /** All calls of a run live in one room, so objects are made with the object that they belong to, never by a call. */
    private static void room(String code) {
        Pattern field = Pattern.compile("private (final )?[\\w\\[\\]]+ \\w+ = new [\\w\\[\\] *]+(\\(\\))?;");
        for (String line : code.split("\n")) {
            String told = line.trim();
            boolean makes = Pattern.compile("\\b(new|clone|copyOf|copyOfRange)\\b").matcher(told).find();
            check.holds("made by a call: " + told,
                !makes || field.matcher(told).matches() || told.equals("births[i] = new Birth();"));
        }
    }

    private static void methodsAreShort(String text) {
        int begun = 0;
        String name = "";
        String[] lines = text.split("\n");
        for (int i = 0; i < lines.length; i++) {
            if (lines[i].matches("(    |        )\\w[^=;]*\\) \\{")) {
                begun = i;
                name = lines[i].trim();
            } else if (lines[i].matches("(    |        )\\}") && !name.isEmpty()) {
                check.holds(name + " is short", i - begun < LONGEST_METHOD);
                name = "";
            }
        }
    }
}
