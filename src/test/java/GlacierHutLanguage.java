import java.io.IOException;
import java.lang.reflect.Field;
import java.lang.reflect.Method;
import java.lang.reflect.Modifier;
import java.nio.file.Files;
import java.nio.file.Path;
import java.util.Arrays;
import java.util.Map;
import java.util.Set;
import java.util.TreeMap;
import java.util.TreeSet;
import java.util.regex.Matcher;
import java.util.regex.Pattern;

/** The program against the rules of LANGUAGE.md that its words and its compiled form can tell. */
public final class GlacierHutLanguage {
    private static final Path SOURCE = Path.of("src/main/java/GlacierHut.java");
    private static final String[] FORBIDDEN = {
        "throw", "throws", "try", "catch", "finally", "synchronized", "assert", "import", "package", "volatile",
        "native", "Object", "equals", "hashCode", "toString", "System\\.(?!arraycopy)", "\\w+Exact", "Thread", "->",
        "::", "static\\s*\\{", "\\+\\s*\"", "\"\\s*\\+", "@", "var"};
    private static final String[] FACE = {
        "load iii", "fly ", "book iii", "cancel i", "storm ii", "clear i", "sleep i", "set ii", "lotOf iii",
        "storeOf ii", "partyOf ii", "count i", "goneOn i", "outOn i", "most ii", "keep ", "restore ", "undo ",
        "type i", "clearText ", "fault i", "play "};

    private static int wrong = 0;

    private static void due(String what, boolean holds) {
        if (!holds) {
            wrong++;
            System.out.println(what);
        }
    }

    public static void main(String[] args) throws IOException {
        String source = Files.readString(SOURCE);
        checkWords(withoutComments(source));
        checkFace();
        checkClasses();
        due("the source has a sign beyond 127", source.chars().allMatch(sign -> sign < 128));
        System.out.println(wrong == 0 ? "the rules are kept" : wrong + " rules are broken");
        if (wrong != 0) {
            System.exit(1);
        }
    }

    private static String withoutComments(String source) {
        return source.replaceAll("(?s)/\\*.*?\\*/", " ").replaceAll("//[^\n]*", " ");
    }

    private static void checkWords(String source) {
        for (String word : FORBIDDEN) {
            String bounded = Character.isLetter(word.charAt(0)) ? "\\b" + word + "\\b" : word;
            Matcher found = Pattern.compile(bounded.replace(")\\b", ")")).matcher(source);
            due("the source has " + word, !found.find());
        }
    }

    private static void checkFace() {
        Set<String> found = new TreeSet<>();
        Set<String> names = new TreeSet<>();
        for (Method method : GlacierHut.class.getDeclaredMethods()) {
            if (Modifier.isPublic(method.getModifiers())) {
                due(method + " answers no int", method.getReturnType() == int.class);
                found.add(method.getName() + " " + "i".repeat(method.getParameterCount()));
                names.add(method.getName());
            } else {
                due(method + " is visible", Modifier.isPrivate(method.getModifiers()));
            }
        }
        due("the face is " + found, found.equals(new TreeSet<>(Arrays.asList(FACE))));
        for (Method method : GlacierHut.class.getDeclaredMethods()) {
            due(method + " bears the name of a public one",
                Modifier.isPublic(method.getModifiers()) || !names.contains(method.getName()));
        }
        Map<String, Boolean> constants = new TreeMap<>();
        for (Field field : GlacierHut.class.getDeclaredFields()) {
            if (!Modifier.isPrivate(field.getModifiers())) {
                constants.put(field.getName(), Modifier.isPublic(field.getModifiers())
                    && Modifier.isStatic(field.getModifiers()) && Modifier.isFinal(field.getModifiers()));
            }
        }
        due("the constants are " + constants, constants.size() == 4 && !constants.containsValue(false));
        due("one public constructor", GlacierHut.class.getConstructors().length == 1
            && GlacierHut.class.getDeclaredConstructors().length == 1);
        due("the class is public and final", Modifier.isFinal(GlacierHut.class.getModifiers()));
    }

    private static void checkClasses() {
        Class<?>[] inside = GlacierHut.class.getDeclaredClasses();
        due("there are " + inside.length + " classes inside", inside.length <= 11);
        checkMembers(GlacierHut.class);
        for (Class<?> one : inside) {
            due(one + " is not static", Modifier.isStatic(one.getModifiers()));
            due(one + " is public", !Modifier.isPublic(one.getModifiers()));
            checkMembers(one);
        }
    }

    private static void checkMembers(Class<?> one) {
        int fields = 0;
        for (Field field : one.getDeclaredFields()) {
            int flags = field.getModifiers();
            due(field + " is static and not final", !Modifier.isStatic(flags) || Modifier.isFinal(flags));
            fields += Modifier.isStatic(flags) ? 0 : 1;
        }
        due(one + " has " + fields + " fields", fields <= 20);
        for (Method method : one.getDeclaredMethods()) {
            due(method + " has too many parameters", method.getParameterCount() <= 7);
        }
    }
}
