import java.io.IOException;
import java.lang.reflect.Member;
import java.lang.reflect.Method;
import java.lang.reflect.Modifier;
import java.nio.file.Files;
import java.nio.file.Path;
import java.util.ArrayList;
import java.util.List;
import java.util.Set;
import java.util.TreeSet;

/** What of LANGUAGE.md can be seen by a program: the face, words that are left out, the sizes of methods and classes. */
public final class LanguageTest {
    private LanguageTest() {
    }

    public static void main(String[] args) throws IOException {
        face();
        String source = Files.readString(Path.of("src/main/java/LostWood.java"));
        String code = source.replaceAll("(?s)/\\*.*?\\*/", "").replaceAll("//[^\n]*", "").replaceAll("\"[^\"\n]*\"", "\"\"");
        for (String word : new String[] {"throw", "throws", "try", "catch", "finally", "synchronized", "assert", "package",
            "volatile", "transient", "native", "random", "nanoTime", "currentTimeMillis", "Exact"}) {
            Support.due("rules 4, 6, 13: '" + word + "'", code.matches("(?s).*\\b\\w*?" + word + "\\b.*") ? 1 : 0, 0);
        }
        for (String sign : new String[] {"->", "::", "@", "[][][]"}) {
            Support.due("rules 2, 3: '" + sign + "'", code.contains(sign) ? 1 : 0, 0);
        }
        for (int i = 0; i < source.length(); i++) {
            if (source.charAt(i) > 126 || source.charAt(i) < 32 && source.charAt(i) != '\n') {
                Support.due("plain signs at " + i, source.charAt(i), 32);
            }
        }
        methodLengths(source);
        Support.finish("LanguageTest");
    }

    private static void face() {
        Set<String> open = new TreeSet<>();
        for (Method m : LostWood.class.getDeclaredMethods()) {
            hidden(m, m.isSynthetic());
            if (Modifier.isPublic(m.getModifiers())) {
                open.add(m.getName());
                Support.due("rule 1: answers of " + m.getName(), m.getReturnType() == int.class ? 0 : 1, 0);
            }
        }
        for (Method m : LostWood.class.getDeclaredMethods()) {
            boolean twice = Modifier.isPrivate(m.getModifiers()) && open.contains(m.getName());
            Support.due("rule 1: a private method named as a public one: " + m, twice ? 1 : 0, 0);
        }
        for (java.lang.reflect.Field f : LostWood.class.getDeclaredFields()) {
            hidden(f, f.getName().equals("NONE"));
        }
        Support.due("rule 1: final", Modifier.isFinal(LostWood.class.getModifiers()) ? 1 : 0, 1);
        Support.due("rule 1: constructors", LostWood.class.getDeclaredConstructors().length, 1);
        Class<?>[] inside = LostWood.class.getDeclaredClasses();
        Support.due("rule 11: classes", inside.length + 1 <= 12 ? 1 : 0, 1);
        for (Class<?> c : inside) {
            Support.due("rule 2: static " + c.getName(), Modifier.isStatic(c.getModifiers()) ? 1 : 0, 1);
            for (Method m : c.getDeclaredMethods()) {
                Support.due("rule 1: a face name inside: " + m, open.contains(m.getName()) ? 1 : 0, 0);
                Support.due("rule 11: parameters of " + m, m.getParameterCount() <= 7 ? 1 : 0, 1);
            }
            long fields = java.util.Arrays.stream(c.getDeclaredFields())
                    .filter(f -> !Modifier.isStatic(f.getModifiers())).count();
            Support.due("rule 11: fields of " + c.getName(), fields <= 20 ? 1 : 0, 1);
        }
    }

    private static void hidden(Member member, boolean free) {
        boolean fine = free || Modifier.isPrivate(member.getModifiers())
                || member instanceof Method && Modifier.isPublic(member.getModifiers());
        Support.due("rule 1: " + member, fine ? 1 : 0, 1);
    }

    private static void methodLengths(String source) {
        List<Integer> starts = new ArrayList<>();
        String[] lines = source.split("\n");
        for (int i = 0; i < lines.length; i++) {
            if (lines[i].matches(" {4}( {4})?\\w.*\\) \\{")) {
                starts.add(i);
            } else if (lines[i].matches(" {4}( {4})?}") && !starts.isEmpty()) {
                int from = starts.get(starts.size() - 1);
                if (lines[from].indexOf(lines[from].trim()) == lines[i].indexOf('}')) {
                    Support.due("rule 11: lines of " + lines[from].trim(), i - from + 1 <= 60 ? 1 : 0, 1);
                    starts.remove(starts.size() - 1);
                }
            }
        }
    }
}
