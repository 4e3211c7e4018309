import java.io.IOException;
import java.lang.reflect.Constructor;
import java.lang.reflect.Field;
import java.lang.reflect.Method;
import java.lang.reflect.Modifier;
import java.nio.file.Files;
import java.nio.file.Path;
import java.util.Set;
import java.util.TreeSet;
import java.util.regex.Matcher;
import java.util.regex.Pattern;

/** The public face of the document, and what LANGUAGE.md forbids, as far as it can be seen from here. */
public final class FaceTest {
    private static final Path SOURCE = Path.of("src/main/java/ChoiceBench.java");

    private static final Set<String> METHODS = Set.of(
            "boolean spawn(int)", "boolean quit(int)", "boolean guard(int,int,int,int,boolean)",
            "boolean timeout(int,int)", "boolean offer(int)", "int step(int)", "boolean cancel(int)",
            "boolean finish(int)", "int tick()", "int run(int,int)", "int phase(int)",
            "int word(int,int)", "int outcome(int,int)", "int entry(int,int,int)", "int pair(int,int)",
            "int doubles()", "int unmet()", "int held()", "int count(int)");

    private static final String[] FORBIDDEN = {
        "throw", "throws", "try", "catch", "finally", "synchronized", "assert", "package",
        "::", "volatile", "transient", "native", "Thread", "System.nanoTime",
        "System.currentTimeMillis", "Exact"
    };

    public static void main(String[] args) throws IOException {
        methods();
        otherMembers();
        inside();
        source();
        Due.end();
    }

    private static String face(Method m) {
        StringBuilder types = new StringBuilder();
        for (Class<?> type : m.getParameterTypes()) {
            types.append(types.length() == 0 ? "" : ",").append(type.getSimpleName());
        }
        return m.getReturnType().getSimpleName() + " " + m.getName() + "(" + types + ")";
    }

    private static void methods() {
        Set<String> open = new TreeSet<>();
        Set<String> openNames = new TreeSet<>();
        Set<String> closedNames = new TreeSet<>();
        for (Method m : ChoiceBench.class.getDeclaredMethods()) {
            if (Modifier.isPrivate(m.getModifiers())) {
                closedNames.add(m.getName());
            } else {
                open.add(face(m));
                openNames.add(m.getName());
                Due.yes(face(m) + " is public", Modifier.isPublic(m.getModifiers()));
                Due.no(face(m) + " is static", Modifier.isStatic(m.getModifiers()));
            }
            Due.yes(face(m) + " has at most seven parameters", m.getParameterCount() <= 7);
        }
        Due.yes("the document's methods and no other: " + open, open.equals(METHODS));
        closedNames.retainAll(openNames);
        Due.is("private ones with the name of a public one: " + closedNames, closedNames.size(), 0);
    }

    private static void otherMembers() {
        Due.yes("public", Modifier.isPublic(ChoiceBench.class.getModifiers()));
        Due.yes("final", Modifier.isFinal(ChoiceBench.class.getModifiers()));
        Constructor<?>[] made = ChoiceBench.class.getDeclaredConstructors();
        Due.is("constructors", made.length, 1);
        Due.yes("public constructor", Modifier.isPublic(made[0].getModifiers()));
        Due.is("its parameters", made[0].getParameterCount(), 1);
        Due.yes("its parameter", made[0].getParameterTypes()[0] == int.class);
        for (Field f : ChoiceBench.class.getDeclaredFields()) {
            int modifiers = f.getModifiers();
            boolean none = f.getName().equals("NONE");
            Due.yes(f.getName() + " is seen as it should", none
                    ? Modifier.isPublic(modifiers) && Modifier.isStatic(modifiers)
                    : Modifier.isPrivate(modifiers));
            Due.yes(f.getName() + " is final, if it is static",
                    !Modifier.isStatic(modifiers) || Modifier.isFinal(modifiers));
        }
    }

    private static void inside() {
        Class<?>[] classes = ChoiceBench.class.getDeclaredClasses();
        Due.yes("at most some twelve classes", classes.length <= 11);
        for (Class<?> c : classes) {
            Due.yes(c.getName() + " is static", Modifier.isStatic(c.getModifiers()));
            Due.no(c.getName() + " is public", Modifier.isPublic(c.getModifiers()));
            Due.yes(c.getName() + " has some twenty fields", c.getDeclaredFields().length <= 22);
        }
    }

    private static void source() throws IOException {
        String text = Files.readString(SOURCE);
        String code = text.replaceAll("(?s)/\\*.*?\\*/", " ").replaceAll("//[^\n]*", " ");
        for (String word : FORBIDDEN) {
            boolean plain = Character.isLetter(word.charAt(0));
            Pattern sought = Pattern.compile(plain ? "\\b" + Pattern.quote(word) + "\\b" : Pattern.quote(word));
            Matcher found = sought.matcher(code);
            Due.no("'" + word + "' stands in the class", found.find());
        }
        // The arrow of a switch is no lambda.
        String noCases = code.replaceAll("(case [^;{}]*?|default\\s*)->", " ");
        Due.no("a lambda stands in the class", noCases.contains("->"));
        String noLists = code.replaceAll("import java\\.util\\.(ArrayList|List|Arrays|Iterator);", " ");
        Due.no("another import stands in the class", noLists.contains("import "));
        Due.yes("characters 0 to 255 alone", text.chars().allMatch(c -> c <= 255));
    }
}
