import java.lang.reflect.Constructor;
import java.lang.reflect.Field;
import java.lang.reflect.Method;
import java.lang.reflect.Modifier;
import java.nio.file.Files;
import java.nio.file.Path;
import java.util.Set;
import java.util.TreeSet;
import java.util.regex.Matcher;
import java.util.regex.Pattern;

/** The public face as the document tells it, and those rules of LANGUAGE.md that can be seen from outside or in the text. */
public final class FaceTest {
    private static final Path DOCUMENT = Path.of("../shared/DOC.md");
    private static final Path SOURCE = Path.of("src/main/java/TaxedByLongest.java");

    public static void main(String[] args) throws Exception {
        face(Files.readString(DOCUMENT));
        members();
        words(Files.readString(SOURCE));
        Check.end();
    }

    private static void face(String document) {
        Set<String> want = new TreeSet<>();
        Matcher told = Pattern.compile("(?m)^    public (int|long) (\\w+)\\((.*)\\);$").matcher(document);
        while (told.find()) {
            want.add(told.group(1) + " " + told.group(2) + "(" + told.group(3).replaceAll(" \\w+(?=,|$)", "") + ")");
        }
        Set<String> got = new TreeSet<>();
        for (Method method : TaxedByLongest.class.getDeclaredMethods()) {
            if (Modifier.isPublic(method.getModifiers())) {
                got.add(faceOf(method));
            }
        }
        Check.due("methods that the document tells", want.size(), 31);
        Check.due("the face", got, want);
        int modifiers = TaxedByLongest.class.getModifiers();
        Check.holds("the class is public and final", Modifier.isPublic(modifiers) && Modifier.isFinal(modifiers));
        Constructor<?>[] constructors = TaxedByLongest.class.getDeclaredConstructors();
        Check.holds("one constructor", constructors.length == 1 && constructors[0].getParameterCount() == 0
                && Modifier.isPublic(constructors[0].getModifiers()));
    }

    private static String faceOf(Method method) {
        StringBuilder types = new StringBuilder();
        for (Class<?> type : method.getParameterTypes()) {
            types.append(types.length() > 0 ? ", " : "").append(type);
        }
        return method.getReturnType() + " " + method.getName() + "(" + types + ")";
    }

    /** Rules 1, 2, 5 and 11. */
    private static void members() {
        Set<String> open = new TreeSet<>();
        for (Method method : TaxedByLongest.class.getDeclaredMethods()) {
            boolean isPublic = Modifier.isPublic(method.getModifiers());
            Check.holds(method + " is public or private", isPublic || Modifier.isPrivate(method.getModifiers()));
            if (isPublic) {
                Check.holds(method + " has a name of its own", open.add(method.getName()));
            }
        }
        noPrivateMethodIsNamedLikeOneOf(open, TaxedByLongest.class);
        for (Field field : TaxedByLongest.class.getDeclaredFields()) {
            Check.holds(field + " is private", Modifier.isPrivate(field.getModifiers()));
            Check.holds(field + " is no static state", !Modifier.isStatic(field.getModifiers()) || Modifier.isFinal(field.getModifiers()));
        }
        Class<?>[] insides = TaxedByLongest.class.getDeclaredClasses();
        Check.holds("some twelve classes", insides.length <= 11);
        for (Class<?> inside : insides) {
            Check.holds(inside + " is static", Modifier.isStatic(inside.getModifiers()));
            noPrivateMethodIsNamedLikeOneOf(open, inside);
            for (Field field : inside.getDeclaredFields()) {
                Check.holds(field + " is no static state", !Modifier.isStatic(field.getModifiers()) || Modifier.isFinal(field.getModifiers()));
            }
        }
    }

    private static void noPrivateMethodIsNamedLikeOneOf(Set<String> open, Class<?> type) {
        for (Method method : type.getDeclaredMethods()) {
            Check.holds(method + " has a name of its own", !Modifier.isPrivate(method.getModifiers()) || !open.contains(method.getName()));
            Check.holds(method + " has seven parameters at most", method.getParameterCount() <= 7);
            Check.holds(method + " is no lambda", !method.getName().startsWith("lambda$"));
        }
    }

    /** Rules 4, 6 and 13. */
    private static void words(String source) {
        String code = source.replaceAll("(?s)/\\*.*?\\*/", "").replaceAll("//.*", "").replaceAll("\"[^\"]*\"|'.'", "0");
        String[] ruledOut = {"throw", "try", "catch", "synchronized", "assert", "package", "hashCode", "\\w+Exact", "Random",
            "System\\.(?!arraycopy)\\w+"};
        for (String word : ruledOut) {
            Check.holds(word + " is ruled out", !Pattern.compile("\\b" + word + "\\b").matcher(code).find());
        }
        Check.holds("no method reference", !code.contains("::"));
        Matcher imports = Pattern.compile("(?m)^import (.*);").matcher(code);
        while (imports.find()) {
            Check.holds("import of " + imports.group(1), imports.group(1).matches("java\\.util\\.(Arrays|ArrayList|List|Iterator)"));
        }
        Check.holds("signs 1 to 127 alone", source.chars().allMatch(c -> c > 0 && c < 128));
    }
}
