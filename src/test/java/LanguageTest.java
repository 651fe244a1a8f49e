import java.io.IOException;
import java.lang.reflect.Constructor;
import java.lang.reflect.Field;
import java.lang.reflect.Method;
import java.lang.reflect.Modifier;
import java.nio.file.Files;
import java.nio.file.Path;
import java.util.Arrays;
import java.util.Set;
import java.util.TreeSet;
import java.util.regex.Matcher;
import java.util.regex.Pattern;

/** The face of the class and the rules of LANGUAGE.md that can be seen by a machine. */
public final class LanguageTest {
    private static final String[] FACE = {
        "int feed(int)", "int end(int)", "int text()", "int fault()", "int rule(int)", "int name(int,int)",
        "int wrote(int)", "int pair(int)", "int odd(int,int)", "int law(int,int)", "int mix(int,int)", "int part(int)",
        "int near(int,int)", "int guess(int,int)", "int undo(int)", "int hear(int,int,boolean)", "int forget(int)",
        "int can()", "long likely(int,int)", "int lied()", "int next(int)", "int sure(int)", "long mean(int)",
        "int best(int)", "int laws(int)", "int row(int,int)", "int twins()", "int meant()", "int slips(int)",
        "int more(int)", "int play(int,int,int,int)", "int keep(int)", "int back(int)", "int sheet(int,int,int)",
        "int lay(int,int,int)", "int read(int,int,int,int)", "int torn()", "int count(int)"
    };
    private static final String[] FORBIDDEN = {
        "throw", "throws", "try", "catch", "finally", "synchronized", "assert", "package", "protected", "native", "volatile",
        "Thread", "System\\.(?!arraycopy)", "Math\\.(?!max|min|abs)", "hashCode", "Object", "var", "new Random", "->", "::", "Exact"
    };

    private static int wrong = 0;

    private static void need(int rule, String what, boolean good) {
        if (!good) {
            wrong++;
            System.out.println("rule " + rule + ": " + what);
        }
    }

    private static String told(Method method) {
        StringBuilder b = new StringBuilder(method.getReturnType().getName()).append(' ').append(method.getName()).append('(');
        Class<?>[] types = method.getParameterTypes();
        for (int i = 0; i < types.length; i++) {
            b.append(i == 0 ? "" : ",").append(types[i].getName());
        }
        return b.append(')').toString();
    }

    private static void face() {
        Class<GuessCalled> c = GuessCalled.class;
        need(1, "public and final", Modifier.isPublic(c.getModifiers()) && Modifier.isFinal(c.getModifiers()));
        Set<String> due = new TreeSet<>(Arrays.asList(FACE));
        Set<String> seen = new TreeSet<>();
        Set<String> publicNames = new TreeSet<>();
        for (Method method : c.getDeclaredMethods()) {
            if (Modifier.isPublic(method.getModifiers())) {
                seen.add(told(method));
                publicNames.add(method.getName());
                need(1, method + " is static", !Modifier.isStatic(method.getModifiers()));
            }
        }
        need(1, "public methods are " + seen, seen.equals(due));
        for (Method method : c.getDeclaredMethods()) {
            if (!Modifier.isPublic(method.getModifiers())) {
                need(1, method + " is not private", Modifier.isPrivate(method.getModifiers()));
                need(1, method + " bears a public name", !publicNames.contains(method.getName()));
            }
        }
        Constructor<?>[] made = c.getDeclaredConstructors();
        need(1, "one public constructor", made.length == 1 && Modifier.isPublic(made[0].getModifiers()) && made[0].getParameterCount() == 0);
        Set<String> constants = new TreeSet<>();
        for (Field field : c.getDeclaredFields()) {
            if (Modifier.isPublic(field.getModifiers())) {
                constants.add(field.getName());
            } else {
                need(1, field + " is not private", Modifier.isPrivate(field.getModifiers()));
            }
        }
        need(1, "constants are " + constants, constants.equals(new TreeSet<>(Arrays.asList("BAD", "STATE", "FULL", "NONE"))));
        inside(c, publicNames);
    }

    private static void inside(Class<?> c, Set<String> publicNames) {
        Class<?>[] classes = c.getDeclaredClasses();
        need(11, classes.length + " classes inside", classes.length < 12);
        for (Class<?> in : classes) {
            need(2, in + " is not static", Modifier.isStatic(in.getModifiers()));
            need(1, in + " is public", !Modifier.isPublic(in.getModifiers()));
            for (Method method : in.getDeclaredMethods()) {
                need(1, method + " bears a public name", !publicNames.contains(method.getName()));
                need(11, method + " has many parameters", method.getParameterCount() <= 7);
            }
            ownFields(in);
        }
        ownFields(c);
    }

    private static void ownFields(Class<?> c) {
        int own = 0;
        for (Field field : c.getDeclaredFields()) {
            if (Modifier.isStatic(field.getModifiers())) {
                need(5, field + " is not final", Modifier.isFinal(field.getModifiers()));
            } else {
                own++;
            }
        }
        need(11, c + " has " + own + " fields", own <= 20);
    }

    private static void source() throws IOException {
        String text = Files.readString(Path.of("src/main/java/GuessCalled.java"));
        need(4, "signs 1 to 127 alone", text.chars().allMatch(ch -> ch > 0 && ch < 128));
        String code = text.replaceAll("(?s)/\\*.*?\\*/", "").replaceAll("//[^\n]*", "").replaceAll("\"[^\"\n]*\"", "\"\"");
        for (String word : FORBIDDEN) {
            String bounded = Character.isLetter(word.charAt(0)) ? "\\b" + word : word;
            String whole = Character.isLetter(word.charAt(word.length() - 1)) ? bounded + "\\b" : bounded;
            Matcher found = Pattern.compile(whole).matcher(code);
            need(4, word + " stands in the source", !found.find());
        }
        Matcher imports = Pattern.compile("import ([^;]*);").matcher(code);
        while (imports.find()) {
            need(4, imports.group(1) + " is imported", imports.group(1).equals("java.util.Arrays"));
        }
        methodsAreShort(text);
    }

    /** A method begins at a line that ends with ") {" and is no deeper than two folds, and ends where its fold does. */
    private static void methodsAreShort(String text) {
        String[] lines = text.split("\n");
        for (int i = 0; i < lines.length; i++) {
            Matcher head = Pattern.compile("^( {4}| {8})(public|private) .*\\) \\{$").matcher(lines[i]);
            if (head.find()) {
                int last = i;
                while (last < lines.length && !lines[last].equals(head.group(1) + "}")) {
                    last++;
                }
                need(11, lines[i].trim() + " has " + (last - i + 1) + " lines", last - i < 60);
            }
        }
    }

    public static void main(String[] args) throws IOException {
        face();
        source();
        System.out.println(wrong == 0 ? "the rules are kept" : wrong + " rules are not kept");
        if (wrong != 0) {
            System.exit(1);
        }
    }
}
