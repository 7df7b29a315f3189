import java.lang.reflect.Constructor;
import java.lang.reflect.Method;
import java.lang.reflect.Modifier;
import java.lang.reflect.Field;
import java.nio.file.Files;
import java.nio.file.Path;
import java.util.Set;
import java.util.TreeSet;
import java.util.regex.Matcher;
import java.util.regex.Pattern;

/** The public face, and those rules of the language that can be seen from outside or in the text. */
public final class FaceTest {
    private static final Check CHECK = new Check();
    private static final String SOURCE = "src/main/java/TaxedByLongest.java";
    private static final String[] FACE = {
        "int letter 1", "int land 0", "int thing 2", "int does 2", "int bind 2", "int done 1", "int change 1", "int law 1",
        "int longest 0", "int stretches 0", "int stretch 2", "int worth 1", "int earned 0", "int pays 0", "int left 0",
        "int allow 1", "int best 1", "int bestDay 1", "int breaking 0", "int more 1", "int brought 1", "int byLaw 1",
        "long years 3", "int row 1", "long fitting 1", "long likely 4", "int judge 0", "int seeds 2", "int image 0",
        "int on 0", "int count 1"
    };

    public static void main(String[] args) throws Exception {
        face();
        members();
        words(Files.readString(Path.of(SOURCE)));
        noObjectsInCalls(Files.readString(Path.of(SOURCE)));
        CHECK.end();
    }

    private static void face() {
        Set<String> got = new TreeSet<>();
        for (Method method : TaxedByLongest.class.getDeclaredMethods()) {
            if (Modifier.isPublic(method.getModifiers())) {
                got.add(method.getReturnType() + " " + method.getName() + " " + method.getParameterCount());
            }
        }
        Set<String> want = new TreeSet<>(Set.of(FACE));
        CHECK.holds("the face is " + got + ", due is " + want, got.equals(want));
        CHECK.holds("the class is final", Modifier.isFinal(TaxedByLongest.class.getModifiers()));
        Constructor<?>[] constructors = TaxedByLongest.class.getDeclaredConstructors();
        CHECK.holds("one constructor", constructors.length == 1 && constructors[0].getParameterCount() == 0
                && Modifier.isPublic(constructors[0].getModifiers()));
    }

    private static void members() {
        Set<String> open = new TreeSet<>();
        for (String member : FACE) {
            open.add(member.split(" ")[1]);
        }
        for (Method method : TaxedByLongest.class.getDeclaredMethods()) {
            boolean isPublic = Modifier.isPublic(method.getModifiers());
            CHECK.holds(method + " is public or private", isPublic || Modifier.isPrivate(method.getModifiers()));
            CHECK.holds(method + " has a name of its own", isPublic || !open.contains(method.getName()));
        }
        for (Field field : TaxedByLongest.class.getDeclaredFields()) {
            CHECK.holds(field + " is private", Modifier.isPrivate(field.getModifiers()));
        }
        for (Class<?> inside : TaxedByLongest.class.getDeclaredClasses()) {
            CHECK.holds(inside + " is static", Modifier.isStatic(inside.getModifiers()));
            for (Method method : inside.getDeclaredMethods()) {
                CHECK.holds(method + " has a name of its own", !open.contains(method.getName()));
                CHECK.holds(method + " has seven parameters at most", method.getParameterCount() <= 7);
            }
            for (Field field : inside.getDeclaredFields()) {
                CHECK.holds(field + " is no static state", !Modifier.isStatic(field.getModifiers()));
            }
        }
    }

    private static void words(String source) {
        String code = source.replaceAll("(?s)/\\*.*?\\*/", "").replaceAll("//.*", "").replaceAll("\"[^\"]*\"|'.'", "0");
        String[] ruledOut = {"throw", "try", "catch", "synchronized", "assert", "package", "equals", "hashCode", "toString", "Exact"};
        for (String word : ruledOut) {
            CHECK.holds(word + " is ruled out", !Pattern.compile("\\b" + word + "\\b").matcher(code).find());
        }
        CHECK.holds("no lambda", !code.contains("->") && !code.contains("::"));
        Matcher imports = Pattern.compile("(?m)^import (.*);").matcher(code);
        while (imports.find()) {
            CHECK.holds("import of " + imports.group(1), imports.group(1).equals("java.util.Arrays"));
        }
        CHECK.holds("signs 1 to 127 alone", source.chars().allMatch(c -> c > 0 && c < 128));
    }

    /** All calls of a run live in one room: rows are made with the object, never by a call. */
    private static void noObjectsInCalls(String source) {
        int line = 0;
        for (String text : source.split("\n")) {
            line++;
            if (text.matches(".*\\bnew\\b [A-Za-z]+[(\\[].*")) {
                CHECK.holds("line " + line + " makes a row with the object", text.matches("\\s+(private )?final .*= new .*"));
            }
        }
    }
}
