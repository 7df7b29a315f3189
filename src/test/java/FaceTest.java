import java.lang.reflect.Constructor;
import java.lang.reflect.Method;
import java.lang.reflect.Modifier;
import java.nio.file.Files;
import java.nio.file.Path;
import java.util.Set;
import java.util.TreeSet;
import java.util.regex.Matcher;
import java.util.regex.Pattern;

/** The public face as the document tells it; LanguageTest looks at all else. */
public final class FaceTest {
    private static final Path DOCUMENT = Path.of("../shared/DOC.md");

    public static void main(String[] args) throws Exception {
        face(Files.readString(DOCUMENT));
        Check.end();
    }

    private static void face(String document) {
        Set<String> want = new TreeSet<>();
        Matcher told = Pattern.compile("(?m)^    public (int|long) (\\w+)\\((.*)\\);$").matcher(document);
        while (told.find()) {
            want.add(told.group(1) + " " + told.group(2) + "(" + told.group(3).replaceAll(" \\w+(?=,|$)", "") + ")");
        }
        Set<String> got = new TreeSet<>();
        for (Method method : TaxedByLongest.class.getDeclaredMethods()) {
            if (Modifier.isPublic(method.getModifiers())) {
                got.add(faceOf(method));
            }
        }
        Check.due("methods that the document tells", want.size(), 31);
        Check.due("the face", got, want);
        int modifiers = TaxedByLongest.class.getModifiers();
        Check.holds("the class is public and final", Modifier.isPublic(modifiers) && Modifier.isFinal(modifiers));
        Constructor<?>[] constructors = TaxedByLongest.class.getDeclaredConstructors();
        Check.holds("one constructor", constructors.length == 1 && constructors[0].getParameterCount() == 0
                && Modifier.isPublic(constructors[0].getModifiers()));
    }

    private static String faceOf(Method method) {
        StringBuilder types = new StringBuilder();
        for (Class<?> type : method.getParameterTypes()) {
            types.append(types.length() > 0 ? ", " : "").append(type);
        }
        return method.getReturnType() + " " + method.getName() + "(" + types + ")";
    }
}
