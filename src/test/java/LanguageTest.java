import java.io.IOException;
import java.lang.reflect.Field;
import java.lang.reflect.Method;
import java.lang.reflect.Modifier;
import java.nio.file.Files;
import java.nio.file.Path;
import java.util.Arrays;
import java.util.List;
import java.util.Set;
import java.util.TreeSet;
import java.util.regex.Matcher;
import java.util.regex.Pattern;

/** What can be told by looking of the rules in ../shared/LANGUAGE.md; the rule's number stands ahead. */
public final class LanguageTest {
    private static final Path SOURCE = Path.of("src/main/java/EightWorlds.java");

    public static void main(String[] args) throws IOException {
        String source = Files.readString(SOURCE);
        face();
        privateNames();
        classes();
        words(withoutComments(source));
        lengths(source);
        Check.end("LanguageTest");
    }

    private static void face() {
        Set<String> want = new TreeSet<>(Arrays.asList((
            "song(int) worth(int,int) feed(int,int) law() world(int,int,int) nothing(int,int) of(int,int) "
            + "weight(int,int) come(int,int) keepings(int,int,int,int) led(int,int) unequal(int) unlike(int) "
            + "luck(int,int) right(int) guess(int,int) odds(int,int,int,int) after(int) shop(int,int) "
            + "chart(int,int) crate(int,int,int) found(int,int) house(int,int,int,int) said(int,int) "
            + "strong(int,int,int) line(int) against(int,int,int) undo() redo() body(int) act(int,int,int) "
            + "trace(int) keep(int,int) row(int,int,int) put(int,int,long) element(int,int) "
            + "shift(int,int,int,int,int) taken(int,int) count(int)").split(" ")));
        Set<String> got = new TreeSet<>();
        for (Method m : EightWorlds.class.getDeclaredMethods()) {
            if (!Modifier.isPrivate(m.getModifiers()) && !m.isSynthetic()) {
                got.add(m.toString().replaceAll(".*EightWorlds\\.", ""));
                Class<?> answers = m.getName().equals("element") ? long.class : int.class;
                Check.holds("1: " + m + " is as the document has it",
                    m.getReturnType() == answers && m.getModifiers() == Modifier.PUBLIC);
            }
        }
        Check.holds("1: the face is " + got, got.equals(want));
        Set<String> constants = new TreeSet<>();
        for (Field f : EightWorlds.class.getDeclaredFields()) {
            if (!Modifier.isPrivate(f.getModifiers())) {
                constants.add(f.getName());
            }
        }
        Check.holds("1: the constants are " + constants,
            constants.equals(new TreeSet<>(List.of("BAD", "NOT", "FULL", "BIG", "STATE", "VOID"))));
        int modifiers = EightWorlds.class.getModifiers();
        Check.holds("1: public and final", Modifier.isPublic(modifiers) && Modifier.isFinal(modifiers));
        Check.due("1: constructors", EightWorlds.class.getConstructors().length, 1);
    }

    private static void privateNames() {
        Set<String> open = new TreeSet<>();
        for (Method m : EightWorlds.class.getDeclaredMethods()) {
            if (Modifier.isPublic(m.getModifiers())) {
                open.add(m.getName());
            }
        }
        for (Method m : EightWorlds.class.getDeclaredMethods()) {
            Check.holds("1: " + m, Modifier.isPublic(m.getModifiers()) || !open.contains(m.getName()));
        }
        for (Class<?> inside : EightWorlds.class.getDeclaredClasses()) {
            for (Method m : inside.getDeclaredMethods()) {
                Check.holds("1: " + m, !open.contains(m.getName()));
            }
        }
    }

    private static void classes() {
        Class<?>[] inside = EightWorlds.class.getDeclaredClasses();
        Check.holds("11: classes", inside.length + 1 <= 12);
        fieldsOf(EightWorlds.class);
        for (Class<?> c : inside) {
            Check.holds("2: static " + c, Modifier.isStatic(c.getModifiers()) && !Modifier.isPublic(c.getModifiers()));
            fieldsOf(c);
        }
    }

    private static void fieldsOf(Class<?> c) {
        int fields = 0;
        for (Field f : c.getDeclaredFields()) {
            boolean constant = Modifier.isStatic(f.getModifiers());
            fields += constant ? 0 : 1;
            Check.holds("5: " + f + " is final", !constant || Modifier.isFinal(f.getModifiers()));
        }
        Check.holds("11: fields of " + c, fields <= 20);
        for (Method m : c.getDeclaredMethods()) {
            Check.holds("11: parameters of " + m, m.getParameterCount() <= 7);
        }
    }

    private static String withoutComments(String source) {
        return source.replaceAll("(?s)/\\*.*?\\*/", " ").replaceAll("//[^\n]*", " ");
    }

    private static void words(String code) {
        String[] none = {"throw", "throws", "try", "catch", "finally", "synchronized", "assert", "package", "Object",
            "System\\.(?!arraycopy)\\w+", "\\w+Exact", "native", "volatile", "transient", "HashMap", "Map", "Set",
            "Thread", "Random", "hashCode", "Scanner", "Exception", "Error"};
        for (String word : none) {
            Matcher m = Pattern.compile("\\b" + word + "\\b").matcher(code);
            Check.holds("3, 4, 6, 13: no " + word, !m.find());
        }
        for (String sign : new String[] {"->", "::", "@", "static {", "protected"}) {
            Check.holds("1, 2, 5: no " + sign, !code.contains(sign));
        }
        Set<String> libraries = Set.of("java.util.Arrays", "java.util.ArrayList", "java.util.List", "java.util.Iterator");
        Matcher imports = Pattern.compile("\\bimport\\s+([^;]+);").matcher(code);
        while (imports.find()) {
            Check.holds("4: import of " + imports.group(1), libraries.contains(imports.group(1)));
        }
        Set<String> rows = Set.of("copyOf", "copyOfRange", "fill");
        Set<String> ofDoubles = Set.of("random", "sqrt", "cbrt", "pow", "exp", "log", "floor", "ceil", "round", "rint");
        Matcher used = Pattern.compile("\\b(Arrays|Math|Integer|Long)\\.(\\w+)").matcher(code);
        while (used.find()) {
            boolean ofArrays = used.group(1).equals("Arrays");
            Check.holds("4: " + used.group(), ofArrays ? rows.contains(used.group(2)) : !ofDoubles.contains(used.group(2)));
        }
    }

    /** A method ends with a lone brace as far in as its head. */
    private static void lengths(String source) {
        String[] lines = source.split("\n");
        Pattern head = Pattern.compile("^(    |        )(?! |class|for|while|if|switch)[\\w\\[\\]<> ]+\\(.*\\) \\{$");
        for (int at = 0; at < lines.length; at++) {
            Matcher m = head.matcher(lines[at]);
            if (m.find()) {
                int end = at;
                while (end < lines.length && !lines[end].equals(m.group(1) + "}")) {
                    end++;
                }
                Check.holds("11: so long a method: " + lines[at], end - at + 1 <= 60);
            }
            Check.holds("a line too long: " + lines[at], lines[at].length() <= 130);
            Check.holds("signs 1 to 127: " + lines[at], lines[at].chars().allMatch(c -> c > 0 && c < 128));
        }
    }
}
