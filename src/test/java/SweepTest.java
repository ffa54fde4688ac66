import java.lang.reflect.Method;
import java.lang.reflect.Modifier;
import java.nio.ByteBuffer;
import java.nio.charset.StandardCharsets;
import java.util.ArrayList;
import java.util.Arrays;
import java.util.Comparator;
import java.util.List;
import java.util.Map;

/**
 * Each call with each of its arguments at, next to and far beyond its bounds, all with all, in states that are empty and
 * full: asked of LostWood and of the Model, with what both tell of their state behind it.
 */
public final class SweepTest {
    /** An object is used for at most 512 calls; the rest is for its making and what is asked behind. */
    private static final int CALLS = 100;

    private static final int MIN = Integer.MIN_VALUE;
    private static final int MAX = Integer.MAX_VALUE;

    private final Map<String, Method> ofModel;
    private LostWood real;
    private Model model;

    private SweepTest(Map<String, Method> ofModel) {
        this.ofModel = ofModel;
    }

    public static void main(String[] args) throws ReflectiveOperationException {
        Method[] face = Arrays.stream(LostWood.class.getDeclaredMethods()).filter(m -> Modifier.isPublic(m.getModifiers()))
                .sorted(Comparator.comparing(Method::getName)).toArray(Method[]::new);
        Map<String, Method> ofModel = new java.util.TreeMap<>();
        for (Method m : face) {
            ofModel.put(m.getName(), Model.class.getMethod(m.getName(), m.getParameterTypes()));
        }
        for (int state = 0; state < 6; state++) {
            for (Method m : face) {
                new SweepTest(ofModel).sweep(state, m);
            }
        }
        Support.finish("SweepTest");
    }

    private void sweep(int state, Method m) throws ReflectiveOperationException {
        make(state);
        List<Object[]> all = new ArrayList<>();
        collect(m, KINDS.getOrDefault(m.getName(), "").split(" "), new Object[m.getParameterCount()], 0, all);
        int calls = 0;
        for (Object[] arguments : all) {
            if (calls == CALLS) {
                same(state, m);
                make(state);
                calls = 0;
            }
            ask(state, m, arguments);
            calls++;
        }
        same(state, m);
    }

    private void ask(int state, Method m, Object... arguments) throws ReflectiveOperationException {
        int got = (Integer) m.invoke(real, arguments);
        int want = (Integer) ofModel.get(m.getName()).invoke(model, arguments);
        Support.due("state " + state + ": " + m.getName() + Arrays.toString(arguments), got, want);
    }

    /** What both tell behind the calls. */
    private void same(int state, Method m) {
        String name = "state " + state + " behind " + m.getName() + ": ";
        for (int what = 0; what <= 8; what++) {
            Support.due(name + "count(" + what + ")", real.count(what), model.count(what));
        }
        for (int p = 0; p < 10; p++) {
            Support.due(name + "mark(" + p + ")", real.mark(p), model.mark(p));
            for (int wind = 0; wind < 4; wind++) {
                Support.due(name + "leads(" + p + ", " + wind + ")", real.leads(p, wind), model.leads(p, wind));
            }
        }
        for (int p = 0; p < 4; p++) {
            Support.due(name + "where(" + p + ")", real.where(p), model.where(p));
            Support.due(name + "thinks(" + p + ")", real.thinks(p), model.thinks(p));
            Support.due(name + "would(" + p + ", 0)", real.would(p, 0), model.would(p, 0));
            Support.due(name + "read(" + p + ")", real.read(p), model.read(p));
        }
        Support.due(name + "undo()", real.undo(), model.undo());
        for (int k = 0; k < 3; k++) {
            Support.due(name + "back(" + k + ")", real.back(k), model.back(k));
            Support.due(name + "count(7)", real.count(7), model.count(7));
            Support.due(name + "count(1)", real.count(1), model.count(1));
        }
        Support.due(name + "wood()", real.wood(), model.wood());
        Support.due(name + "fault(0)", real.fault(0), model.fault(0));
        Support.due(name + "fault(1)", real.fault(1), model.fault(1));
    }

    /** 0 a new object, 1 the least WOOD, 2 and 3 the greatest, without and with all else, 4 sixty STEPS, 5 a ring with rows. */
    private void make(int state) {
        real = new LostWood();
        model = new Model();
        if (state == 0) {
            return;
        }
        tell(state == 1 ? Edges.TWO : state == 5 ? RING : Edges.TEN);
        due(real.wood(), model.wood());
        if (state == 3) {
            due(real.image(0), model.image(0));
            step(0, 1);
            step(1, 2);
            step(2, 3);
            due(real.image(1), model.image(1));
            tell("wood places 3;mark 2 7");
        }
        for (int n = 0; n < (state == 4 ? 60 : 0); n++) {
            step(n % 4, n / 4 % 4);
        }
        if (state >= 3) {
            fill(0, 0, 1, 0, 3, 0);
            fill(1, 0, 4, 0, 1, 9);
            fill(2, 3);
        }
    }

    private static final String RING = "wood places 5;way 0 n to 1;way 1 n to 2;way 2 n to 3;way 3 n to 4;way 4 n to 0;way 2 w to 0;"
            + "mark 1 1;mark 2 1;mark 4 2;pupil in 0 lies 1 thinks 0 1 2;pupil in 2 lies 0 thinks 0 3;lesson bare 1;lesson lies 3;"
            + "lesson shut 2 w;";

    private void step(int pupil, int wind) {
        due(real.goes(pupil, wind), model.goes(pupil, wind));
    }

    private void fill(int slot, int width, int... numbers) {
        due(real.row(slot, width, numbers.length), model.row(slot, width, numbers.length));
        for (int i = 0; i < numbers.length; i++) {
            due(real.write(slot, i, numbers[i]), model.write(slot, i, numbers[i]));
        }
    }

    private void tell(String text) {
        byte[] bytes = text.getBytes(StandardCharsets.ISO_8859_1);
        for (int i = 0; i < bytes.length; i += 20) {
            ByteBuffer b = ByteBuffer.wrap(Arrays.copyOfRange(bytes, i, i + 20));
            int[] v = {b.getInt(), b.getInt(), b.getInt(), b.getInt(), b.getInt()};
            due(real.feed(v[0], v[1], v[2], v[3], v[4]), model.feed(v[0], v[1], v[2], v[3], v[4]));
        }
        due(real.end(bytes.length), model.end(bytes.length));
    }

    private static void due(int got, int want) {
        Support.due("the making of a state", got, want);
    }

    private void collect(Method m, String[] kinds, Object[] sofar, int i, List<Object[]> all) {
        if (i == sofar.length) {
            all.add(sofar.clone());
            return;
        }
        for (int v : edges(kinds[i])) {
            if (m.getParameterTypes()[i] == long.class) {
                sofar[i] = (long) v;
            } else {
                sofar[i] = v;
            }
            collect(m, kinds, sofar, i + 1, all);
        }
    }

    /** What each argument is: p PLACE, w WIND, s SET, m mark, u PUPIL, l SLOT, d seed, b bytes, or a bound. */
    private static final Map<String, String> KINDS = Map.ofEntries(Map.entry("feed", "b b b b b"), Map.entry("end", "23"),
            Map.entry("fault", "1"), Map.entry("leads", "p w"), Map.entry("mark", "p"), Map.entry("becomes", "s w"),
            Map.entry("seen", "s m"), Map.entry("where", "u"), Map.entry("thinks", "u"), Map.entry("pupil", "u 3"),
            Map.entry("goes", "u w"), Map.entry("who", "1"), Map.entry("would", "l u"), Map.entry("think", "l u"),
            Map.entry("knows", "l u"), Map.entry("loses", "l u"), Map.entry("doubts", "l u"), Map.entry("blur", "u 10"),
            Map.entry("blurs", "u 10 1"), Map.entry("stray", "u"), Map.entry("strays", "u 2"), Map.entry("home", "u"),
            Map.entry("homes", "u 2"), Map.entry("states", "u"), Map.entry("plan", "s"), Map.entry("first", "s"),
            Map.entry("alike", "p p"), Map.entry("tells", "p p"), Map.entry("told", "p p 4"), Map.entry("bares", "p p"),
            Map.entry("bared", "p p"), Map.entry("gather", "s"), Map.entry("gathers", "s 9"), Map.entry("roundabout", "s"),
            Map.entry("meet", "p p"), Map.entry("met", "p p"), Map.entry("read", "l"), Map.entry("began", "l"),
            Map.entry("ask", "l"), Map.entry("leaves", "l"), Map.entry("course", "l u"), Map.entry("lesson", "l u 4"),
            Map.entry("spoilt", "l u"), Map.entry("route", "p p"), Map.entry("dark", "p p"), Map.entry("detour", "p p"),
            Map.entry("fog", "p p 15 1"), Map.entry("likely", "p 15"), Map.entry("can", "p 15"), Map.entry("lead", "p w p"),
            Map.entry("marks", "p m"), Map.entry("drawn", "d u 40 2"), Map.entry("luck", "d 20 u 40"), Map.entry("count", "8"),
            Map.entry("image", "2"), Map.entry("back", "2"), Map.entry("row", "l 3 60"), Map.entry("write", "l 3 255"),
            Map.entry("paste", "l q l q q"));

    private int[] edges(String kind) {
        int places = model.count(0);
        int pupils = model.count(3);
        return switch (kind) {
            case "p" -> new int[] {0, places - 1, -1, places, MIN, MAX};
            case "w" -> new int[] {0, 3, -1, 4, MAX};
            case "s" -> new int[] {1, (1 << places) - 1, 6, 0, 1 << places, (1 << places) + 1, -1, MIN, MAX};
            case "m" -> new int[] {0, 9, -1, 10, MIN};
            case "u" -> new int[] {0, pupils - 1, -1, pupils, MIN, MAX};
            case "l" -> new int[] {0, 1, 2, 3, -1, 4, MAX};
            case "d" -> new int[] {0, 2000000000, -1, 2000000001, MIN, MAX};
            case "b" -> new int[] {0x77202020, -1};
            case "q" -> new int[] {0, 2, 4, -1, MAX};
            default -> boundEdges(Integer.parseInt(kind));
        };
    }

    private static int[] boundEdges(int greatest) {
        return new int[] {0, 1, greatest, -1, greatest + 1, MIN, MAX};
    }
}
