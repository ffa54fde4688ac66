import java.io.IOException;
import java.lang.reflect.Member;
import java.lang.reflect.Method;
import java.lang.reflect.Modifier;
import java.nio.file.Files;
import java.nio.file.Path;
import java.util.ArrayList;
import java.util.List;
import java.util.Map;
import java.util.Set;
import java.util.TreeMap;
import java.util.TreeSet;
import java.util.regex.Matcher;
import java.util.regex.Pattern;

/** What of LANGUAGE.md can be seen by a program: the face, words that are left out, the sizes of methods and classes. */
public final class LanguageTest {
    private LanguageTest() {
    }

    public static void main(String[] args) throws IOException {
        face();
        String source = Files.readString(Path.of("src/main/java/LostWood.java"));
        String code = source.replaceAll("(?s)/\\*.*?\\*/", "").replaceAll("//[^\n]*", "").replaceAll("\"[^\"\n]*\"", "\"\"");
        for (String word : new String[] {"throw", "throws", "try", "catch", "finally", "synchronized", "assert", "package",
            "volatile", "transient", "native", "random", "nanoTime", "currentTimeMillis", "Exact"}) {
            Support.due("rules 4, 6, 13: '" + word + "'", code.matches("(?s).*\\b\\w*?" + word + "\\b.*") ? 1 : 0, 0);
        }
        for (String sign : new String[] {"->", "::", "@", "[][][]"}) {
            Support.due("rules 2, 3: '" + sign + "'", code.contains(sign) ? 1 : 0, 0);
        }
        for (int i = 0; i < source.length(); i++) {
            if (source.charAt(i) > 126 || source.charAt(i) < 32 && source.charAt(i) != '\n') {
                Support.due("plain signs at " + i, source.charAt(i), 32);
            }
        }
        methodLengths(source);
        constructors(code);
        callDepths(code);
        Support.finish("LanguageTest");
    }

    private static void face() {
        Set<String> open = new TreeSet<>();
        for (Method m : LostWood.class.getDeclaredMethods()) {
            hidden(m, m.isSynthetic());
            if (Modifier.isPublic(m.getModifiers())) {
                open.add(m.getName());
                Support.due("rule 1: answers of " + m.getName(), m.getReturnType() == int.class ? 0 : 1, 0);
            }
        }
        for (Method m : LostWood.class.getDeclaredMethods()) {
            boolean twice = Modifier.isPrivate(m.getModifiers()) && open.contains(m.getName());
            Support.due("rule 1: a private method named as a public one: " + m, twice ? 1 : 0, 0);
        }
        for (java.lang.reflect.Field f : LostWood.class.getDeclaredFields()) {
            hidden(f, f.getName().equals("NONE"));
        }
        Support.due("rule 1: final", Modifier.isFinal(LostWood.class.getModifiers()) ? 1 : 0, 1);
        Support.due("rule 1: constructors", LostWood.class.getDeclaredConstructors().length, 1);
        Class<?>[] inside = LostWood.class.getDeclaredClasses();
        Support.due("rule 11: classes", inside.length + 1 <= 12 ? 1 : 0, 1);
        for (Class<?> c : inside) {
            Support.due("rule 2: static " + c.getName(), Modifier.isStatic(c.getModifiers()) ? 1 : 0, 1);
            for (Method m : c.getDeclaredMethods()) {
                Support.due("rule 1: a face name inside: " + m, open.contains(m.getName()) ? 1 : 0, 0);
                Support.due("rule 11: parameters of " + m, m.getParameterCount() <= 7 ? 1 : 0, 1);
            }
            long fields = java.util.Arrays.stream(c.getDeclaredFields())
                    .filter(f -> !Modifier.isStatic(f.getModifiers())).count();
            Support.due("rule 11: fields of " + c.getName(), fields <= 20 ? 1 : 0, 1);
        }
    }

    private static void hidden(Member member, boolean free) {
        boolean fine = free || Modifier.isPrivate(member.getModifiers())
                || member instanceof Method && Modifier.isPublic(member.getModifiers());
        Support.due("rule 1: " + member, fine ? 1 : 0, 1);
    }

    private static void methodLengths(String source) {
        List<Integer> starts = new ArrayList<>();
        String[] lines = source.split("\n");
        for (int i = 0; i < lines.length; i++) {
            if (lines[i].matches(" {4}( {4})?\\w.*\\) \\{")) {
                starts.add(i);
            } else if (lines[i].matches(" {4}( {4})?}") && !starts.isEmpty()) {
                int from = starts.get(starts.size() - 1);
                if (lines[from].indexOf(lines[from].trim()) == lines[i].indexOf('}')) {
                    Support.due("rule 11: lines of " + lines[from].trim(), i - from + 1 <= 60 ? 1 : 0, 1);
                    starts.remove(starts.size() - 1);
                }
            }
        }
    }

    /** Neither the object that is made nor a part of it is handed to what its constructor makes. */
    private static void constructors(String code) {
        Matcher made = Pattern.compile("\n {4}( {4})?(private )?final \\w+ \\w+ = new \\w+\\(([^)]*)\\)").matcher(code);
        int n = 0;
        while (made.find()) {
            Support.due("rule 12: handed out: " + made.group().trim(), made.group(3).length(), 0);
            n++;
        }
        Support.due("rule 12: parts found", n >= 10 ? 1 : 0, 1);
        Support.due("rule 12: this as an argument", code.matches("(?s).*[(,] *this *[,)].*") ? 1 : 0, 0);
    }

    /** Methods of one name are taken as one, so the depth found is never below the true one. */
    private static void callDepths(String code) {
        Map<String, Set<String>> calls = new TreeMap<>();
        String inside = "";
        for (String line : code.split("\n")) {
            Matcher head = Pattern.compile(" {4}(?: {4})?\\w[^=;]*?(\\w+)\\([^()]*\\) \\{").matcher(line);
            if (head.matches()) {
                inside = head.group(1);
                calls.putIfAbsent(inside, new TreeSet<>());
                continue;
            }
            Matcher call = Pattern.compile("(\\w+)\\(").matcher(line);
            while (!inside.isEmpty() && call.find()) {
                calls.get(inside).add(call.group(1));
            }
        }
        int deepest = 0;
        for (String name : calls.keySet()) {
            deepest = Math.max(deepest, depth(name, calls, 0));
        }
        Support.due("rule 11: methods read", calls.size() >= 120 ? 1 : 0, 1);
        Support.due("rule 11: calls go " + deepest + " deep", deepest <= 8 ? 1 : 0, 1);
    }

    private static int depth(String name, Map<String, Set<String>> calls, int above) {
        int below = 0;
        // Without recursion no row of calls is as long as this.
        if (above < 30) {
            for (String called : calls.get(name)) {
                if (calls.containsKey(called)) {
                    below = Math.max(below, depth(called, calls, above + 1));
                }
            }
        }
        return below + 1;
    }
}
