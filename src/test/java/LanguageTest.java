import java.io.IOException;
import java.lang.reflect.Constructor;
import java.lang.reflect.Field;
import java.lang.reflect.Method;
import java.lang.reflect.Modifier;
import java.nio.file.Files;
import java.nio.file.Path;
import java.util.Set;
import java.util.TreeSet;
import java.util.regex.Matcher;
import java.util.regex.Pattern;

/** What of LANGUAGE.md can be seen from outside: the face, the words that may not stand in the source. */
public final class LanguageTest {
    private static final Set<String> FACE = Set.of("int road(int,int,int)", "int town(int,int)", "int letters(long)",
        "int blank()", "int fault()", "int births()", "int birth(int,int)", "int as(int,int)", "int about(int,int)",
        "int touch(int,int)", "int forget()", "int felt(int,int,int)", "long surely(int,int,int,int)", "int over()",
        "int soonest(int,int)", "int unseen(int,int,int)", "int kept(int,int)", "int words(int,int,int)",
        "int least(int,int,int)", "int missed(int,int,int)", "int book(int)", "long read(int,int,int,int)",
        "int crowd(int)", "int wince(int,int)", "int pairings()", "int twin(int)", "long round(int,int,int)",
        "int image()", "int restore()", "int count(int)", "long digest()");
    private static final Set<String> CONSTANTS = Set.of("NONE", "UNKNOWN", "OUTSIDE", "STATE", "FULL");
    private static final Pattern FORBIDDEN = Pattern.compile(
        "\\b(throw|throws|try|catch|synchronized|assert|protected|native|volatile|package)\\b|->|::|Exact\\(");
    private static final Check check = new Check();

    public static void main(String[] args) throws IOException {
        face();
        nested();
        source(Files.readString(Path.of("src/main/java/FeltByTwin.java")));
        check.end();
    }

    private static void face() {
        Set<String> methods = new TreeSet<>();
        Set<String> names = new TreeSet<>();
        for (Method method : FeltByTwin.class.getDeclaredMethods()) {
            if (Modifier.isPublic(method.getModifiers())) {
                StringBuilder told = new StringBuilder(method.getReturnType() + " " + method.getName() + "(");
                for (Class<?> type : method.getParameterTypes()) {
                    told.append(told.charAt(told.length() - 1) == '(' ? "" : ",").append(type);
                }
                methods.add(told.append(")").toString());
                names.add(method.getName());
            }
        }
        check.holds("the methods are those of the document: " + methods, methods.equals(new TreeSet<>(FACE)));
        for (Method method : FeltByTwin.class.getDeclaredMethods()) {
            int modifiers = method.getModifiers();
            check.holds(method + " is public or private", Modifier.isPublic(modifiers) || Modifier.isPrivate(modifiers));
            check.holds(method + " has a name of its own", Modifier.isPublic(modifiers) || !names.contains(method.getName()));
        }
        for (Field field : FeltByTwin.class.getDeclaredFields()) {
            int modifiers = field.getModifiers();
            boolean isPublic = CONSTANTS.contains(field.getName());
            check.holds(field + " is as told", isPublic ? Modifier.isPublic(modifiers) : Modifier.isPrivate(modifiers));
        }
        Constructor<?>[] constructors = FeltByTwin.class.getDeclaredConstructors();
        check.holds("one constructor", constructors.length == 1 && Modifier.isPublic(constructors[0].getModifiers()));
        check.holds("the class is public and final", Modifier.isPublic(FeltByTwin.class.getModifiers())
            && Modifier.isFinal(FeltByTwin.class.getModifiers()));
    }

    private static void nested() {
        Class<?>[] inside = FeltByTwin.class.getDeclaredClasses();
        check.holds("at most twelve classes", inside.length + 1 <= 12);
        for (Class<?> one : inside) {
            check.holds(one + " is static", Modifier.isStatic(one.getModifiers()));
            check.holds(one + " has at most twenty fields", one.getDeclaredFields().length <= 20);
            for (Field field : one.getDeclaredFields()) {
                int modifiers = field.getModifiers();
                check.holds(field + " is final if static", !Modifier.isStatic(modifiers) || Modifier.isFinal(modifiers));
            }
            for (Method method : one.getDeclaredMethods()) {
                check.holds(method + " has seven parameters at most", method.getParameterCount() <= 7);
            }
        }
    }

    private static void source(String text) {
        String code = text.replaceAll("(?s)/\\*.*?\\*/", "").replaceAll("//[^\n]*", "");
        Matcher matcher = FORBIDDEN.matcher(code);
        while (matcher.find()) {
            check.holds("no " + matcher.group(), false);
        }
        Matcher imports = Pattern.compile("import ([^;]+);").matcher(code);
        while (imports.find()) {
            check.holds("import " + imports.group(1) + " is allowed", imports.group(1).equals("java.util.Arrays"));
        }
        check.holds("the code is plain ASCII", text.chars().allMatch(c -> c < 128));
    }
}
