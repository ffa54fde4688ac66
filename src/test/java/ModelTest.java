import java.lang.reflect.Method;
import java.nio.charset.StandardCharsets;
import java.util.ArrayList;
import java.util.Arrays;
import java.util.Comparator;
import java.util.List;
import java.util.Map;
import java.util.Random;

/** Long runs of drawn calls, told to LostWood and to the Model: both answer alike, and the class never throws. */
public final class ModelTest {
    private static final int RUNS = 400;
    private static final int CALLS = 480;

    private final Random random;
    private LostWood real;
    private Model model;
    private int calls;
    private final List<String> told = new ArrayList<>();

    private ModelTest(long seed) {
        random = new Random(seed);
    }

    public static void main(String[] args) throws ReflectiveOperationException {
        Method[] face = Arrays.stream(LostWood.class.getDeclaredMethods())
                .filter(m -> java.lang.reflect.Modifier.isPublic(m.getModifiers()))
                .sorted(Comparator.comparing(Method::getName)).toArray(Method[]::new);
        Support.due("how many methods the face has", face.length, 66 - 1);
        for (int run = 0; run < RUNS; run++) {
            new ModelTest(run).run(face);
        }
        Support.finish("ModelTest");
    }

    private void run(Method[] face) throws ReflectiveOperationException {
        real = new LostWood();
        model = new Model();
        calls = 0;
        if (random.nextInt(10) > 0) {
            tellText(face, woodText());
        }
        while (calls < CALLS) {
            int kind = random.nextInt(120);
            if (kind == 0) {
                tellText(face, woodText());
            } else if (kind == 1) {
                tellText(face, spoilt(woodText()));
            } else if (kind < 12) {
                fillRow(face);
            } else {
                Method m = random.nextInt(8) == 0 ? named(face, "goes") : face[random.nextInt(face.length)];
                // A drawn wood() would end most runs: the text comes but now and then.
                if (!m.getName().equals("wood") || random.nextInt(20) == 0) {
                    ask(m, arguments(m));
                }
            }
        }
    }

    private static Method named(Method[] face, String name) {
        return Arrays.stream(face).filter(m -> m.getName().equals(name)).findFirst().orElseThrow();
    }

    private void ask(Method m, Object... arguments) throws ReflectiveOperationException {
        calls++;
        String call = m.getName() + Arrays.toString(arguments);
        told.add(call);
        int got = (Integer) m.invoke(real, arguments);
        int want = (Integer) Model.class.getMethod(m.getName(), m.getParameterTypes()).invoke(model, arguments);
        if (got != want) {
            System.out.println("behind " + told);
        }
        Support.due(call, got, want);
    }

    /** By method what each argument is: p PLACE, w WIND, s SET, m mark, u PUPIL, l SLOT, d seed, or a number below one. */
    private static final Map<String, String> KINDS = Map.ofEntries(Map.entry("feed", "d d d d d"), Map.entry("end", "64"),
            Map.entry("fault", "3"), Map.entry("leads", "p w"), Map.entry("mark", "p"), Map.entry("becomes", "s w"),
            Map.entry("seen", "s m"), Map.entry("where", "u"), Map.entry("thinks", "u"), Map.entry("pupil", "u 4"),
            Map.entry("goes", "u w"), Map.entry("who", "2"), Map.entry("would", "l u"), Map.entry("think", "l u"),
            Map.entry("knows", "l u"), Map.entry("loses", "l u"), Map.entry("doubts", "l u"), Map.entry("blur", "u 7"),
            Map.entry("blurs", "u 5 3"), Map.entry("stray", "u"), Map.entry("strays", "u 2"), Map.entry("home", "u"),
            Map.entry("homes", "u 3"), Map.entry("states", "u"), Map.entry("plan", "s"), Map.entry("first", "s"),
            Map.entry("alike", "p p"), Map.entry("tells", "p p"), Map.entry("told", "p p 2"), Map.entry("bares", "p p"),
            Map.entry("bared", "p p"), Map.entry("gather", "s"), Map.entry("gathers", "s 3"), Map.entry("roundabout", "s"),
            Map.entry("meet", "p p"), Map.entry("met", "p p"), Map.entry("read", "l"), Map.entry("began", "l"),
            Map.entry("ask", "l"), Map.entry("leaves", "l"), Map.entry("course", "l u"), Map.entry("lesson", "l u 5"),
            Map.entry("spoilt", "l u"), Map.entry("route", "p p"), Map.entry("dark", "p p"), Map.entry("detour", "p p"),
            Map.entry("fog", "p p 16 2"), Map.entry("likely", "p 16"), Map.entry("can", "p 16"), Map.entry("lead", "p w p"),
            Map.entry("marks", "p m"), Map.entry("drawn", "d u 41 3"), Map.entry("luck", "d 21 u 41"),
            Map.entry("count", "9"), Map.entry("image", "3"), Map.entry("back", "3"), Map.entry("row", "l 2 7"),
            Map.entry("write", "l 6 5"), Map.entry("paste", "l 4 l 4 4"));

    private Object[] arguments(Method m) {
        Class<?>[] types = m.getParameterTypes();
        String[] kinds = types.length == 0 ? new String[0] : KINDS.get(m.getName()).split(" ");
        Object[] out = new Object[types.length];
        for (int i = 0; i < types.length; i++) {
            boolean odd = random.nextInt(10 + 4 * types.length) == 0;
            int v = odd ? oddNumber() : number(kinds[i]);
            if (types[i] == long.class) {
                out[i] = odd ? random.nextLong() : (long) v;
            } else {
                out[i] = v;
            }
        }
        return out;
    }

    private int oddNumber() {
        int[] edges = {Integer.MAX_VALUE, Integer.MIN_VALUE, 1 << 30, 1 << 10, 60, 61, 41, 40, 21, 20, 16, 15, 11, 10, 9, 5, 4, 3, 2,
            1, 0, -1, -2, 2000000000, 2000000001};
        return random.nextInt(4) == 0 ? random.nextInt() : edges[random.nextInt(edges.length)];
    }

    private int number(String kind) {
        int places = Math.max(1, model.count(0));
        return switch (kind) {
            case "p" -> random.nextInt(places);
            case "w", "l" -> random.nextInt(4);
            case "s" -> random.nextInt(1 << places);
            case "m" -> random.nextInt(random.nextInt(3) == 0 ? 10 : 3);
            case "u" -> random.nextInt(Math.max(1, model.count(3)));
            case "d" -> random.nextInt(2000000001);
            default -> random.nextInt(Integer.parseInt(kind));
        };
    }

    private void fillRow(Method[] face) throws ReflectiveOperationException {
        int slot = random.nextInt(4);
        int n = random.nextInt(7);
        boolean pairs = random.nextBoolean();
        ask(named(face, "row"), slot, random.nextInt(4), pairs ? 2 * (n / 2) : n);
        for (int i = 0; i < n; i++) {
            long v = pairs && i % 2 == 1 ? random.nextInt(3) : random.nextInt(pairs ? 5 : 4);
            ask(named(face, "write"), slot, i, v);
        }
    }

    private void tellText(Method[] face, String text) throws ReflectiveOperationException {
        byte[] bytes = text.getBytes(StandardCharsets.ISO_8859_1);
        ask(named(face, "end"), 0);
        for (int i = 0; i < bytes.length; i += 20) {
            byte[] part = Arrays.copyOfRange(bytes, i, i + 20);
            java.nio.ByteBuffer five = java.nio.ByteBuffer.wrap(part);
            ask(named(face, "feed"), five.getInt(), five.getInt(), five.getInt(), five.getInt(), five.getInt());
        }
        ask(named(face, "end"), bytes.length);
        ask(named(face, "wood"));
        ask(named(face, "fault"), 0);
        ask(named(face, "fault"), 1);
    }

    private String woodText() {
        int places = 2 + random.nextInt(random.nextInt(4) == 0 ? 9 : 5);
        int marks = 1 + random.nextInt(3);
        StringBuilder out = new StringBuilder("wood places " + places + ";");
        for (int n = random.nextInt(3 * places); n > 0; n--) {
            out.append(blank()).append("way ").append(random.nextInt(places)).append(' ')
                    .append("nesw".charAt(random.nextInt(4))).append(" to ").append(random.nextInt(places))
                    .append(random.nextBoolean() ? " back" : "").append(blank()).append(";");
        }
        for (int n = random.nextInt(places + 1); n > 0; n--) {
            out.append(blank()).append("mark ").append(random.nextInt(places)).append(" ").append(random.nextInt(marks + 1))
                    .append(";");
        }
        for (int n = random.nextInt(5); n > 0; n--) {
            out.append(blank()).append("pupil in ").append(random.nextInt(places)).append(" lies ")
                    .append(random.nextInt(4)).append(" thinks");
            for (int k = random.nextInt(places); k >= 0; k--) {
                out.append(' ').append(random.nextInt(places));
            }
            out.append(';');
        }
        for (int n = random.nextInt(5); n > 0; n--) {
            out.append(blank()).append("lesson ");
            switch (random.nextInt(3)) {
                case 0 -> out.append("bare ").append(random.nextInt(places));
                case 1 -> out.append("lies ").append(1 + random.nextInt(3));
                default -> out.append("shut ").append(random.nextInt(places)).append(' ')
                        .append("nesw".charAt(random.nextInt(4)));
            }
            out.append(";");
        }
        return out.toString();
    }

    private String blank() {
        return new String[] {"", "", " ", "\n", " \n "}[random.nextInt(5)];
    }

    /** One TOKEN or byte of it is another, twice or gone. */
    private String spoilt(String text) {
        String[] bits = {";", " ", "wood ", "way ", "mark ", "pupil in 0 lies 0 thinks 0;", "lesson bare 0;", "9", "10", "0",
            "?", "\t", "\u00e9", "back", "to", " n ", "A", "thinks", "places"};
        int from = random.nextInt(text.length());
        int to = Math.min(text.length(), from + random.nextInt(4));
        String bit = bits[random.nextInt(bits.length)].repeat(random.nextInt(3));
        if (random.nextInt(4) == 0) {
            from = text.indexOf(';', from) + 1;
            to = from;
            bit = bits[5 + random.nextInt(2)].repeat(random.nextInt(7));
        }
        String out = text.substring(0, from) + bit + text.substring(to);
        return out.substring(0, Math.min(out.length(), 980));
    }
}
