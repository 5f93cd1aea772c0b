import java.io.IOException;
import java.lang.reflect.Constructor;
import java.lang.reflect.Field;
import java.lang.reflect.Method;
import java.lang.reflect.Modifier;
import java.nio.charset.StandardCharsets;
import java.nio.file.Files;
import java.nio.file.Path;
import java.util.Arrays;
import java.util.Set;
import java.util.TreeSet;
import java.util.regex.Matcher;
import java.util.regex.Pattern;

/** The public face, and those rules of LANGUAGE.md that can be read off the text of the class. */
public final class FaceTest {
    private static final Set<String> FACE = new TreeSet<>(Arrays.asList(
        "int rests(int)", "int factor(int,int)", "int order(int,int)", "int make(int,long)", "int powers(int,int)",
        "int join(int,int)", "int meet(int,int)", "boolean liesIn(int,int)", "int tell(int,int)", "long group(int)",
        "int parts(int,int,int)", "int discriminant(int,int)", "int list(int,int)", "int listed(int,int,int)",
        "long polynomial(int,int)", "int roots(int,int)", "int count(int)", "void clear()", "boolean image(int)",
        "boolean again(int)"));
    private static final String[] FORBIDDEN = {"throw", "throws", "try", "catch", "finally", "synchronized", "assert", "import",
        "package", "protected", "volatile", "native", "Object", "System\\.(?!arraycopy)", "\\w+Exact", "->", "::",
        "@\\w+", "Random", "Thread", "while\\s*\\(true\\)", "for\\s*\\(;;\\)", "static\\s*\\{"};
    private static int wrong = 0;

    public static void main(String[] args) throws IOException {
        members();
        String source = System.getProperty("source", "src/main/java/FieldsByClasses.java");
        text(Files.readString(Path.of(source), StandardCharsets.US_ASCII));
        System.out.println(wrong == 0 ? "the face is as due" : wrong + " faults in the face");
        if (wrong != 0) {
            System.exit(1);
        }
    }

    private static void fault(boolean isOne, String what) {
        if (isOne) {
            wrong++;
            System.out.println(what);
        }
    }

    private static void members() {
        Class<?> type = FieldsByClasses.class;
        fault(!Modifier.isPublic(type.getModifiers()) || !Modifier.isFinal(type.getModifiers()), "not public and final");
        Set<String> seen = new TreeSet<>();
        Set<String> names = new TreeSet<>();
        for (String one : FACE) {
            names.add(one.substring(one.indexOf(' ') + 1, one.indexOf('(')));
        }
        for (Method method : type.getDeclaredMethods()) {
            if (Modifier.isPrivate(method.getModifiers())) {
                fault(names.contains(method.getName()), "private, with a public name: " + method);
            } else if (!method.isSynthetic()) {
                String parameters = Arrays.toString(method.getParameterTypes()).replaceAll("[\\[\\] ]", "");
                seen.add(method.getReturnType() + " " + method.getName() + "(" + parameters + ")");
            }
        }
        fault(!seen.equals(FACE), "the methods are " + seen);
        for (Field field : type.getDeclaredFields()) {
            boolean none = field.getName().equals("NONE") && Modifier.isPublic(field.getModifiers())
                && Modifier.isStatic(field.getModifiers()) && Modifier.isFinal(field.getModifiers());
            fault(!none && !Modifier.isPrivate(field.getModifiers()), "not private: " + field);
        }
        Constructor<?>[] makers = type.getDeclaredConstructors();
        fault(makers.length != 1 || makers[0].getParameterCount() != 0, "the constructors are " + Arrays.toString(makers));
        for (Class<?> inside : type.getDeclaredClasses()) {
            fault(!Modifier.isStatic(inside.getModifiers()), "not static: " + inside);
            fault(inside.getDeclaredFields().length > 20, "too many fields: " + inside);
        }
        fault(type.getDeclaredClasses().length > 11, "too many classes");
    }

    private static void text(String whole) {
        String code = whole.replaceAll("(?s)/\\*.*?\\*/", "").replaceAll("//[^\n]*", "");
        for (String word : FORBIDDEN) {
            boolean isWord = Character.isLetter(word.charAt(0));
            Matcher matcher = Pattern.compile(isWord ? "\\b" + word + (word.endsWith(")") ? "" : "\\b") : word).matcher(code);
            fault(matcher.find(), "in the text: " + word);
        }
        int lines = 0;
        String head = "";
        for (String line : whole.split("\n")) {
            lines++;
            if (line.matches(" {4,8}(public|private|static|[a-z]+) .*\\(.*\\{")) {
                head = line.trim();
                lines = 0;
                fault(head.split(",").length > 7, "too many parameters: " + head);
            }
            fault(lines == 60, "a long method: " + head);
            if (line.matches(" {4,8}}")) {
                lines = 0;
                head = "";
            }
        }
    }
}
