import java.io.IOException;
import java.lang.reflect.Constructor;
import java.lang.reflect.Field;
import java.lang.reflect.Method;
import java.lang.reflect.Modifier;
import java.nio.file.Files;
import java.nio.file.Path;
import java.util.Arrays;
import java.util.HashSet;
import java.util.Set;
import java.util.TreeSet;
import java.util.regex.Matcher;
import java.util.regex.Pattern;

/** The public face, and rules of LANGUAGE.md that can be seen from outside or in the text. */
public final class FaceTest {
    private static final Due DUE = new Due();
    private static final String[] FACE = {
        "int letter(int)", "int blank()", "int fault()", "int house()", "int plan()", "int title(int,int)",
        "int as(int,int)", "int night(int,int)", "int play(int,int)", "int delay(int)", "int add(int,int,int)",
        "int rights(int,int,int)", "int be(int,int)", "int best(int,int,int)", "int rank(int)",
        "int see(int,int,boolean)", "int forget()", "int drawn(int,int,int)", "int image()", "int restore()",
        "int count(int)", "long digest()"};

    public static void main(String[] args) throws IOException {
        face();
        constants();
        classes();
        text();
        DUE.end();
    }

    private static void so(String what, boolean is) {
        DUE.is("whether " + what, is ? 1 : 0, 1);
    }

    private static void face() {
        Set<String> want = new TreeSet<>(Arrays.asList(FACE));
        Set<String> got = new TreeSet<>();
        Set<String> hidden = new HashSet<>();
        Set<String> shown = new HashSet<>();
        for (Method method : PlaySeason.class.getDeclaredMethods()) {
            if (Modifier.isPrivate(method.getModifiers())) {
                hidden.add(method.getName());
                continue;
            }
            shown.add(method.getName());
            String parameters = Arrays.toString(Arrays.stream(method.getParameterTypes()).map(Class::getName).toArray());
            got.add(method.getReturnType().getName() + " " + method.getName()
                + parameters.replace("[", "(").replace("]", ")").replace(" ", ""));
            so(method.getName() + " is public, of the object", method.getModifiers() == Modifier.PUBLIC);
        }
        so("the methods are as told: " + got, got.equals(want));
        so("no private method bears the name of a public one", !hidden.removeAll(shown));
        Constructor<?>[] constructors = PlaySeason.class.getDeclaredConstructors();
        so("there is one constructor", constructors.length == 1);
        so("it is public", constructors[0].getModifiers() == Modifier.PUBLIC && constructors[0].getParameterCount() == 0);
        so("the class is public and final", PlaySeason.class.getModifiers() == (Modifier.PUBLIC | Modifier.FINAL));
    }

    private static void constants() {
        DUE.is("NONE", PlaySeason.NONE, -1);
        DUE.is("UNKNOWN", PlaySeason.UNKNOWN, -101);
        DUE.is("OUTSIDE", PlaySeason.OUTSIDE, -102);
        DUE.is("STATE", PlaySeason.STATE, -103);
        DUE.is("FULL", PlaySeason.FULL, -104);
        int shown = 0;
        for (Field field : PlaySeason.class.getDeclaredFields()) {
            shown += Modifier.isPrivate(field.getModifiers()) ? 0 : 1;
            so(field.getName() + ", if static, is final", !Modifier.isStatic(field.getModifiers())
                || Modifier.isFinal(field.getModifiers()));
        }
        DUE.is("how many fields are not private", shown, 5);
    }

    private static void classes() {
        Class<?>[] inside = PlaySeason.class.getDeclaredClasses();
        so("there are at most twelve classes", inside.length < 12);
        for (Class<?> own : inside) {
            so(own.getSimpleName() + " is static", Modifier.isStatic(own.getModifiers()));
            so(own.getSimpleName() + " is not public", !Modifier.isPublic(own.getModifiers()));
            so(own.getSimpleName() + " has at most twenty fields", own.getDeclaredFields().length <= 20);
        }
    }

    private static void text() throws IOException {
        String source = Files.readString(Path.of("src/main/java/PlaySeason.java"));
        String code = source.replaceAll("(?s)/\\*.*?\\*/", "").replaceAll("//[^\n]*", "");
        String[] banned = {"throw", "throws", "try", "catch", "finally", "synchronized", "assert", "package", "protected",
            "Object", "Exception", "System\\.(?!arraycopy)", "\\w+Exact", "Random", "Thread", "->", "::", "equals", "hashCode"};
        for (String word : banned) {
            Matcher found = Pattern.compile(word.matches("\\w+") ? "\\b" + word + "\\b" : word).matcher(code);
            so("the program is without " + word, !found.find());
        }
        Matcher imports = Pattern.compile("import ([^;]*);").matcher(code);
        while (imports.find()) {
            so("import " + imports.group(1), imports.group(1).equals("java.util.Arrays"));
        }
        so("all signs are plain", source.chars().allMatch(c -> c == '\n' || c >= 32 && c < 127));
    }
}
