import java.math.BigInteger;
import java.util.ArrayList;
import java.util.Arrays;
import java.util.HashMap;
import java.util.List;
import java.util.Map;
import java.util.TreeMap;
import java.util.TreeSet;
import java.util.function.Function;
import java.util.function.Predicate;

/**
 * The document written a second time, as plainly as the Java library allows and by other means than LostWood where
 * there are some, to be asked beside it.
 */
public final class Model {
    private record Mind(int at, int thinks) {
    }

    private record Pupil(int at, int lies, int thinks) {
    }

    private record Lesson(String kind, int number, int wind) {
    }

    private record Step(int pupil, int wind) {
    }

    /** Never changed once told: a change makes another one. */
    private record Wood(int places, int[][] ways, int[] marks, List<Pupil> pupils, List<Lesson> lessons, int lines) {
        Wood copy() {
            int[][] w = new int[places][];
            for (int p = 0; p < places; p++) {
                w[p] = ways[p].clone();
            }
            return new Wood(places, w, marks.clone(), pupils, lessons, lines);
        }

        int becomes(int set, int wind) {
            TreeSet<Integer> out = new TreeSet<>();
            for (int p : members(set)) {
                out.add(ways[p][wind]);
            }
            return bits(out);
        }

        int seen(int set, int mark) {
            TreeSet<Integer> out = new TreeSet<>(members(set));
            out.removeIf(p -> marks[p] != mark);
            return bits(out);
        }

        int all() {
            return (1 << places) - 1;
        }

        Mind step(Mind mind, int lies, int wind) {
            int at = ways[mind.at][(wind + lies) % 4];
            int thinks = seen(becomes(mind.thinks, wind), marks[at]);
            return new Mind(at, thinks == 0 ? seen(all(), marks[at]) : thinks);
        }
    }

    private static final class Fault extends RuntimeException {
        private static final long serialVersionUID = 1L;
        final int kind;
        final int place;

        Fault(int kind, int place) {
            this.kind = kind;
            this.place = place;
        }
    }

    private static final String NAMES = "nesw";

    private String tape = "";
    private Wood wood;
    private List<Step> steps = new ArrayList<>();
    private int faultKind = 0;
    private int faultPlace = -1;
    private final long[][] slots = new long[4][];
    private final int[] widths = new int[4];
    private final boolean[] kept = new boolean[3];
    private final Wood[] keptWood = new Wood[3];
    @SuppressWarnings({"unchecked", "rawtypes"})
    private final List<Step>[] keptSteps = new List[3];

    static List<Integer> members(int set) {
        List<Integer> out = new ArrayList<>();
        for (int p = 0; p < 31; p++) {
            if ((set & (1 << p)) != 0) {
                out.add(p);
            }
        }
        return out;
    }

    static int bits(Iterable<Integer> places) {
        int out = 0;
        for (int p : places) {
            out |= 1 << p;
        }
        return out;
    }

    // ---- the text ----

    public int feed(int a, int b, int c, int d, int e) {
        if (tape.length() + 20 > 1000) {
            return -1;
        }
        for (int v : new int[] {a, b, c, d, e}) {
            for (int shift : new int[] {24, 16, 8, 0}) {
                tape += (char) (v >>> shift & 255);
            }
        }
        return tape.length();
    }

    public int end(int n) {
        if (n < 0 || n > tape.length()) {
            return -1;
        }
        tape = tape.substring(0, n);
        return n;
    }

    /** TOKENS as texts, each with its place; the end is an empty one. */
    private static TreeMap<Integer, String> tokens(String text) {
        TreeMap<Integer, String> out = new TreeMap<>();
        java.util.regex.Matcher m = java.util.regex.Pattern.compile("[a-z]+|[0-9]+|[^ \n]", java.util.regex.Pattern.DOTALL)
                .matcher(text);
        while (m.find()) {
            out.put(m.start(), m.group());
        }
        out.put(text.length(), "");
        return out;
    }

    private static String word(TreeMap<Integer, String> left, String... allowed) {
        Map.Entry<Integer, String> token = left.pollFirstEntry();
        if (!Arrays.asList(allowed).contains(token.getValue())) {
            throw new Fault(1, token.getKey());
        }
        return token.getValue();
    }

    private static int number(TreeMap<Integer, String> left, int low, int high) {
        Map.Entry<Integer, String> token = left.pollFirstEntry();
        if (!token.getValue().matches("[0-9]+")) {
            throw new Fault(1, token.getKey());
        }
        BigInteger v = new BigInteger(token.getValue());
        if (v.compareTo(BigInteger.valueOf(low)) < 0 || v.compareTo(BigInteger.valueOf(high)) > 0) {
            throw new Fault(2, token.getKey());
        }
        return v.intValue();
    }

    private static int wind(TreeMap<Integer, String> left) {
        return NAMES.indexOf(word(left, "n", "e", "s", "w"));
    }

    private static Wood parse(String text) {
        TreeMap<Integer, String> left = tokens(text);
        if (left.size() == 1) {
            return null;
        }
        word(left, "wood");
        word(left, "places");
        int n = number(left, 2, 10);
        word(left, ";");
        int[][] ways = new int[n][4];
        for (int p = 0; p < n; p++) {
            Arrays.fill(ways[p], p);
        }
        int[] marks = new int[n];
        List<Pupil> pupils = new ArrayList<>();
        List<Lesson> lessons = new ArrayList<>();
        int lines = 1;
        while (left.size() > 1) {
            int place = left.firstKey();
            switch (word(left, "way", "mark", "pupil", "lesson")) {
                case "way" -> {
                    int from = number(left, 0, n - 1);
                    int wind = wind(left);
                    word(left, "to");
                    int to = number(left, 0, n - 1);
                    ways[from][wind] = to;
                    if (left.firstEntry().getValue().equals("back")) {
                        left.pollFirstEntry();
                        ways[to][(wind + 2) % 4] = from;
                    }
                }
                case "mark" -> {
                    int p = number(left, 0, n - 1);
                    marks[p] = number(left, 0, 9);
                }
                case "pupil" -> {
                    if (pupils.size() == 4) {
                        throw new Fault(3, place);
                    }
                    word(left, "in");
                    int at = number(left, 0, n - 1);
                    word(left, "lies");
                    int lies = number(left, 0, 3);
                    word(left, "thinks");
                    TreeSet<Integer> thinks = new TreeSet<>();
                    do {
                        thinks.add(number(left, 0, n - 1));
                    } while (left.firstEntry().getValue().matches("[0-9]+"));
                    pupils.add(new Pupil(at, lies, bits(thinks)));
                }
                default -> {
                    if (lessons.size() == 5) {
                        throw new Fault(3, place);
                    }
                    String kind = word(left, "bare", "lies", "shut");
                    int number = kind.equals("lies") ? number(left, 1, 3) : number(left, 0, n - 1);
                    lessons.add(new Lesson(kind, number, kind.equals("shut") ? wind(left) : 0));
                }
            }
            word(left, ";");
            lines++;
        }
        return new Wood(n, ways, marks, pupils, lessons, lines);
    }

    public int wood() {
        faultKind = 0;
        faultPlace = -1;
        try {
            wood = parse(tape);
        } catch (Fault f) {
            faultKind = f.kind;
            faultPlace = f.place;
            return -4;
        }
        tape = "";
        steps = new ArrayList<>();
        return wood == null ? 0 : wood.lines;
    }

    public int fault(int what) {
        return what == 0 ? faultKind : what == 1 ? faultPlace : -1;
    }

    private boolean isPlace(int p) {
        return wood != null && p >= 0 && p < wood.places;
    }

    private boolean isPupil(int p) {
        return wood != null && p >= 0 && p < wood.pupils.size();
    }

    private boolean isSet(int set) {
        return wood != null && set > 0 && set < 1 << wood.places;
    }

    private static boolean isWind(int w) {
        return 0 <= w && w <= 3;
    }

    public int leads(int place, int wind) {
        return isPlace(place) && isWind(wind) ? wood.ways[place][wind] : -2;
    }

    public int mark(int place) {
        return isPlace(place) ? wood.marks[place] : -2;
    }

    public int becomes(int set, int wind) {
        return isSet(set) && isWind(wind) ? wood.becomes(set, wind) : -2;
    }

    public int seen(int set, int mark) {
        return isSet(set) && mark >= 0 && mark <= 9 ? wood.seen(set, mark) : -2;
    }

    // ---- the PUPILS: each asked by doing all its STEPS again ----

    private Mind now(int pupil) {
        Pupil p = wood.pupils.get(pupil);
        Mind mind = new Mind(p.at, p.thinks);
        for (Step s : steps) {
            if (s.pupil == pupil) {
                mind = wood.step(mind, p.lies, s.wind);
            }
        }
        return mind;
    }

    private int lies(int pupil) {
        return wood.pupils.get(pupil).lies;
    }

    private static boolean sure(Mind m) {
        return m.thinks == 1 << m.at;
    }

    private static boolean lost(Mind m) {
        return !members(m.thinks).contains(m.at);
    }

    private static int doubt(Mind m) {
        return members(m.thinks).size();
    }

    public int where(int pupil) {
        return isPupil(pupil) ? now(pupil).at : -2;
    }

    public int thinks(int pupil) {
        return isPupil(pupil) ? now(pupil).thinks : -2;
    }

    public int pupil(int pupil, int what) {
        if (!isPupil(pupil) || what < 0 || what > 3) {
            return -2;
        }
        Mind m = now(pupil);
        return new int[] {lies(pupil), doubt(m), sure(m) ? 1 : 0, lost(m) ? 1 : 0}[what];
    }

    public int goes(int pupil, int wind) {
        if (!isPupil(pupil) || !isWind(wind)) {
            return -2;
        }
        if (steps.size() == 60) {
            return -5;
        }
        steps.add(new Step(pupil, wind));
        return now(pupil).at;
    }

    public int most() {
        if (wood == null) {
            return -2;
        }
        TreeMap<Integer, Integer> byDoubt = new TreeMap<>();
        for (int p = 0; p < wood.pupils.size(); p++) {
            byDoubt.merge(doubt(now(p)), 1 << p, Integer::sum);
        }
        return byDoubt.isEmpty() ? 0 : byDoubt.lastEntry().getValue();
    }

    public int who(int what) {
        if (wood == null || what < 0 || what > 1) {
            return -2;
        }
        int out = 0;
        for (int p = 0; p < wood.pupils.size(); p++) {
            out |= (what == 0 ? sure(now(p)) : lost(now(p))) ? 1 << p : 0;
        }
        return out;
    }

    public int undo() {
        if (wood == null) {
            return -2;
        }
        if (steps.isEmpty()) {
            return -5;
        }
        steps.remove(steps.size() - 1);
        return steps.size();
    }

    public int anew() {
        if (wood == null) {
            return -2;
        }
        int n = steps.size();
        steps.clear();
        return n;
    }

    private int refusal(int slot, int pupil) {
        if (slot < 0 || slot > 3 || !isPupil(pupil)) {
            return -2;
        }
        if (slots[slot] == null) {
            return -6;
        }
        return Arrays.stream(slots[slot]).allMatch(v -> v >= 0 && v <= 3) ? 0 : -2;
    }

    private int walk(int slot, int pupil, Function<List<Mind>, Integer> answer) {
        int refused = refusal(slot, pupil);
        if (refused != 0) {
            return refused;
        }
        List<Mind> minds = new ArrayList<>();
        minds.add(now(pupil));
        for (long w : slots[slot]) {
            minds.add(wood.step(minds.get(minds.size() - 1), lies(pupil), (int) w));
        }
        return answer.apply(minds);
    }

    private static int firstOf(List<Mind> minds, Predicate<Mind> goal) {
        for (int i = 0; i < minds.size(); i++) {
            if (goal.test(minds.get(i))) {
                return i;
            }
        }
        return -1;
    }

    public int would(int slot, int pupil) {
        return walk(slot, pupil, m -> m.get(m.size() - 1).at);
    }

    public int think(int slot, int pupil) {
        return walk(slot, pupil, m -> m.get(m.size() - 1).thinks);
    }

    public int knows(int slot, int pupil) {
        return walk(slot, pupil, m -> firstOf(m, Model::sure));
    }

    public int loses(int slot, int pupil) {
        return walk(slot, pupil, m -> firstOf(m, Model::lost));
    }

    public int doubts(int slot, int pupil) {
        return walk(slot, pupil, m -> m.stream().mapToInt(Model::doubt).max().getAsInt());
    }

    // ---- first WALKS: level by level, each level's states by their least row ----

    private interface Go<S> {
        S by(S state, int wind);
    }

    /** The first WALK to a goal; null: there is none. */
    private static <S> String firstWalk(S start, Go<S> go, Predicate<S> goal, Map<S, String> met) {
        Map<S, String> level = new HashMap<>(Map.of(start, ""));
        while (!level.isEmpty()) {
            met.putAll(level);
            String best = null;
            for (Map.Entry<S, String> e : level.entrySet()) {
                if (goal.test(e.getKey()) && (best == null || e.getValue().compareTo(best) < 0)) {
                    best = e.getValue();
                }
            }
            if (best != null) {
                return best;
            }
            Map<S, String> next = new HashMap<>();
            for (Map.Entry<S, String> e : level.entrySet()) {
                for (int w = 0; w < 4; w++) {
                    S s = go.by(e.getKey(), w);
                    if (!met.containsKey(s)) {
                        next.merge(s, e.getValue() + w, (a, b) -> a.compareTo(b) < 0 ? a : b);
                    }
                }
            }
            level = next;
        }
        return null;
    }

    private static int length(String walk) {
        return walk == null ? -1 : walk.length();
    }

    private static int at(String walk, int i) {
        return walk == null || i < 0 || i >= walk.length() ? -1 : walk.charAt(i) - '0';
    }

    private String firstMind(int pupil, Predicate<Mind> goal) {
        return firstWalk(now(pupil), (m, w) -> wood.step(m, lies(pupil), w), goal, new HashMap<>());
    }

    public int blur(int pupil, int n) {
        return isPupil(pupil) && n >= 1 ? length(firstMind(pupil, m -> doubt(m) >= n)) : -2;
    }

    public int blurs(int pupil, int n, int i) {
        return isPupil(pupil) && n >= 1 ? at(firstMind(pupil, m -> doubt(m) >= n), i) : -2;
    }

    public int stray(int pupil) {
        return isPupil(pupil) ? length(firstMind(pupil, Model::lost)) : -2;
    }

    public int strays(int pupil, int i) {
        return isPupil(pupil) ? at(firstMind(pupil, Model::lost), i) : -2;
    }

    public int home(int pupil) {
        return isPupil(pupil) ? length(firstMind(pupil, Model::sure)) : -2;
    }

    public int homes(int pupil, int i) {
        return isPupil(pupil) ? at(firstMind(pupil, Model::sure), i) : -2;
    }

    public int states(int pupil) {
        if (!isPupil(pupil)) {
            return -2;
        }
        Map<Mind, String> met = new HashMap<>();
        firstWalk(now(pupil), (m, w) -> wood.step(m, lies(pupil), w), m -> false, met);
        return met.size();
    }

    // ---- PLANS: whether one of a depth does, asked for one depth behind the other ----

    private boolean does(int set, int depth, Map<Long, Boolean> memo) {
        Boolean known = memo.get((long) set * 5000 + depth);
        if (known != null) {
            return known;
        }
        boolean out = true;
        for (int mark = 0; mark < 10 && out; mark++) {
            int part = wood.seen(set, mark);
            if (Integer.bitCount(part) > 1) {
                out = depth > 0 && leastWind(part, depth, memo) >= 0;
            }
        }
        memo.put((long) set * 5000 + depth, out);
        return out;
    }

    private int leastWind(int set, int depth, Map<Long, Boolean> memo) {
        for (int w = 0; w < 4; w++) {
            if (does(wood.becomes(set, w), depth - 1, memo)) {
                return w;
            }
        }
        return -1;
    }

    /** Beyond this depth nothing is asked: woods for this model must be small enough. */
    private static final int DEEP = 60;

    public int plan(int set) {
        if (!isSet(set)) {
            return -2;
        }
        Map<Long, Boolean> memo = new HashMap<>();
        for (int depth = 0; depth <= DEEP; depth++) {
            if (does(set, depth, memo)) {
                return depth;
            }
        }
        return -1;
    }

    public int first(int set) {
        int depth = plan(set);
        if (depth == -2 || depth < 1) {
            return depth == -2 ? -2 : -1;
        }
        for (int mark = 0; mark < 10; mark++) {
            if (wood.seen(set, mark) == set) {
                return leastWind(set, depth, new HashMap<>());
            }
        }
        return -1;
    }

    public int hardest() {
        if (wood == null) {
            return -2;
        }
        int out = -1;
        for (int set = 1; set <= wood.all(); set++) {
            if (Integer.bitCount(set) == 2) {
                out = Math.max(out, plan(set));
            }
        }
        return out;
    }

    // ---- ALIKE: by kinds made finer until they stay ----

    private int[] kindsOf(int[] marks) {
        String[] kind = new String[wood.places];
        for (int p = 0; p < wood.places; p++) {
            kind[p] = "" + marks[p];
        }
        for (int round = 0; round <= wood.places; round++) {
            Map<String, String> names = new TreeMap<>();
            String[] finer = new String[wood.places];
            for (int p = 0; p < wood.places; p++) {
                String s = kind[p];
                for (int w = 0; w < 4; w++) {
                    s += "," + kind[wood.ways[p][w]];
                }
                names.putIfAbsent(s, "k" + names.size());
                finer[p] = names.get(s);
            }
            kind = finer;
        }
        List<String> found = new ArrayList<>(new TreeSet<>(Arrays.asList(kind)));
        return Arrays.stream(kind).mapToInt(found::indexOf).toArray();
    }

    public int alike(int place, int other) {
        if (!isPlace(place) || !isPlace(other)) {
            return -2;
        }
        int[] kinds = kindsOf(wood.marks);
        return kinds[place] == kinds[other] ? 1 : 0;
    }

    public int kinds() {
        return wood == null ? -2 : Arrays.stream(kindsOf(wood.marks)).max().getAsInt() + 1;
    }

    private String tellingWalk(int place, int other) {
        return firstWalk(List.of(place, other), (s, w) -> List.of(wood.ways[s.get(0)][w], wood.ways[s.get(1)][w]),
                s -> wood.marks[s.get(0)] != wood.marks[s.get(1)], new HashMap<>());
    }

    public int tells(int place, int other) {
        return isPlace(place) && isPlace(other) ? length(tellingWalk(place, other)) : -2;
    }

    public int told(int place, int other, int i) {
        return isPlace(place) && isPlace(other) ? at(tellingWalk(place, other), i) : -2;
    }

    private int leastBare(int place, int other) {
        for (int size = 0; size <= wood.places; size++) {
            for (int set = 0; set <= wood.all(); set++) {
                if (Integer.bitCount(set) != size) {
                    continue;
                }
                int[] marks = wood.marks.clone();
                boolean fits = true;
                for (int p : members(set)) {
                    fits &= marks[p] != 0;
                    marks[p] = 0;
                }
                if (fits) {
                    int[] kinds = kindsOf(marks);
                    if (kinds[place] == kinds[other]) {
                        return set;
                    }
                }
            }
        }
        throw new IllegalStateException("all bare are alike");
    }

    public int bares(int place, int other) {
        return isPlace(place) && isPlace(other) ? Integer.bitCount(leastBare(place, other)) : -2;
    }

    public int bared(int place, int other) {
        return isPlace(place) && isPlace(other) ? leastBare(place, other) : -2;
    }

    // ---- GATHER, MEET ----

    private String gathering(int set) {
        return firstWalk(set, (s, w) -> wood.becomes(s, w), s -> Integer.bitCount(s) == 1, new HashMap<>());
    }

    public int gather(int set) {
        return isSet(set) ? length(gathering(set)) : -2;
    }

    public int gathers(int set, int i) {
        return isSet(set) ? at(gathering(set), i) : -2;
    }

    public int roundabout(int set) {
        if (!isSet(set)) {
            return -2;
        }
        int n = length(gathering(set));
        for (int p = 0; p < wood.places && n >= 0; p++) {
            int to = 1 << p;
            if (length(firstWalk(set, (s, w) -> wood.becomes(s, w), s -> s == to, new HashMap<>())) == n) {
                return p;
            }
        }
        return -1;
    }

    private List<TreeSet<Integer>> reaches(int from, int n) {
        List<TreeSet<Integer>> out = new ArrayList<>();
        out.add(new TreeSet<>(List.of(from)));
        for (int i = 0; i < n; i++) {
            TreeSet<Integer> next = new TreeSet<>();
            for (int p : out.get(i)) {
                for (int to : wood.ways[p]) {
                    next.add(to);
                }
            }
            out.add(next);
        }
        return out;
    }

    private int[] meeting(int place, int other) {
        List<TreeSet<Integer>> a = reaches(place, 200);
        List<TreeSet<Integer>> b = reaches(other, 200);
        for (int n = 0; n <= 200; n++) {
            for (int p : a.get(n)) {
                if (b.get(n).contains(p)) {
                    return new int[] {n, p};
                }
            }
        }
        return new int[] {-1, -1};
    }

    public int meet(int place, int other) {
        return isPlace(place) && isPlace(other) ? meeting(place, other)[0] : -2;
    }

    public int met(int place, int other) {
        return isPlace(place) && isPlace(other) ? meeting(place, other)[1] : -2;
    }

    // ---- READ: each beginning by itself ----

    private int reading(int slot, Function<int[], Integer> answer) {
        if (slot < 0 || slot > 3 || wood == null) {
            return -2;
        }
        long[] row = slots[slot];
        if (row == null) {
            return -6;
        }
        for (int i = 0; i < row.length; i++) {
            if (row[i] < 0 || row[i] > (i % 2 == 0 ? 4 : 9)) {
                return -2;
            }
        }
        if (row.length % 2 != 0) {
            return -2;
        }
        TreeSet<Integer> began = new TreeSet<>();
        TreeSet<Integer> ended = new TreeSet<>();
        for (int p = 0; p < wood.places; p++) {
            int at = p;
            boolean fits = true;
            for (int i = 0; i < row.length; i += 2) {
                at = row[i] == 4 ? at : wood.ways[at][(int) row[i]];
                fits &= wood.marks[at] == row[i + 1];
            }
            if (fits) {
                began.add(p);
                ended.add(at);
            }
        }
        return answer.apply(new int[] {bits(ended), bits(began)});
    }

    /** By WIND how many are left at worst. */
    private int[] left(int set) {
        int[] out = new int[4];
        for (int w = 0; w < 4; w++) {
            Map<Integer, TreeSet<Integer>> byMark = new TreeMap<>();
            for (int p : members(set)) {
                int to = wood.ways[p][w];
                byMark.computeIfAbsent(wood.marks[to], k -> new TreeSet<>()).add(to);
            }
            out[w] = byMark.values().stream().mapToInt(TreeSet::size).max().orElse(0);
        }
        return out;
    }

    public int read(int slot) {
        return reading(slot, r -> r[0]);
    }

    public int began(int slot) {
        return reading(slot, r -> r[1]);
    }

    public int ask(int slot) {
        return reading(slot, r -> {
            int[] left = left(r[0]);
            int least = Arrays.stream(left).min().getAsInt();
            return Arrays.stream(left).boxed().toList().indexOf(least);
        });
    }

    public int leaves(int slot) {
        return reading(slot, r -> Arrays.stream(left(r[0])).min().getAsInt());
    }

    // ---- COURSES ----

    private void orders(List<Integer> so, List<Integer> rest, Wood ground, Mind mind, int lies, long[] walk,
            TreeMap<String, Integer> out) {
        if (rest.isEmpty()) {
            out.put(so.toString().replaceAll("[^0-9]", ""), doubt(mind));
        }
        for (int which : rest) {
            Lesson lesson = ground.lessons.get(which);
            Wood changed = ground.copy();
            int more = lies;
            switch (lesson.kind) {
                case "bare" -> changed.marks[lesson.number] = 0;
                case "shut" -> changed.ways[lesson.number][lesson.wind] = lesson.number;
                default -> more = (lies + lesson.number) % 4;
            }
            Mind then = mind;
            for (long w : walk) {
                then = changed.step(then, more, (int) w);
            }
            List<Integer> soFar = new ArrayList<>(so);
            soFar.add(which);
            List<Integer> others = new ArrayList<>(rest);
            others.remove((Integer) which);
            orders(soFar, others, changed, then, more, walk, out);
        }
    }

    private TreeMap<String, Integer> allOrders(int slot, int pupil) {
        TreeMap<String, Integer> out = new TreeMap<>();
        List<Integer> rest = new ArrayList<>();
        for (int i = 0; i < wood.lessons.size(); i++) {
            rest.add(i);
        }
        orders(List.of(), rest, wood, now(pupil), lies(pupil), slots[slot], out);
        return out;
    }

    public int course(int slot, int pupil) {
        int refused = refusal(slot, pupil);
        return refused != 0 ? refused : allOrders(slot, pupil).values().stream().max(Integer::compare).get();
    }

    public int lesson(int slot, int pupil, int i) {
        int refused = refusal(slot, pupil);
        if (refused != 0) {
            return refused;
        }
        int most = course(slot, pupil);
        for (Map.Entry<String, Integer> e : allOrders(slot, pupil).entrySet()) {
            if (e.getValue() == most) {
                return at(e.getKey(), i);
            }
        }
        return -1;
    }

    public int spoilt(int slot, int pupil) {
        int refused = refusal(slot, pupil);
        return refused != 0 ? refused : allOrders(slot, pupil).values().stream().min(Integer::compare).get();
    }

    // ---- ways: all that come to no PLACE twice; FOG ----

    private void allWays(int at, int to, int been, int[] soFar, TreeSet<Integer> costs, TreeSet<Integer> lengths) {
        if (at == to) {
            costs.add(soFar[0] * 100 + soFar[1]);
            lengths.add(soFar[1]);
            return;
        }
        for (int next : wood.ways[at]) {
            if ((been & 1 << next) == 0) {
                int[] then = {soFar[0] + (wood.marks[next] == 0 ? 1 : 0), soFar[1] + 1};
                allWays(next, to, been | 1 << next, then, costs, lengths);
            }
        }
    }

    private int way(int place, int other, int what) {
        if (!isPlace(place) || !isPlace(other)) {
            return -2;
        }
        TreeSet<Integer> costs = new TreeSet<>();
        TreeSet<Integer> lengths = new TreeSet<>();
        allWays(place, other, 1 << place, new int[2], costs, lengths);
        if (costs.isEmpty()) {
            return -1;
        }
        return what == 0 ? lengths.first() : what == 1 ? costs.first() / 100 : costs.first() % 100;
    }

    public int route(int place, int other) {
        return way(place, other, 0);
    }

    public int dark(int place, int other) {
        return way(place, other, 1);
    }

    public int detour(int place, int other) {
        return way(place, other, 2);
    }

    /** How many of 4 to the n WALKS go from one PLACE to another. */
    private BigInteger walks(int from, int to, int n, Map<String, BigInteger> memo) {
        if (n == 0) {
            return from == to ? BigInteger.ONE : BigInteger.ZERO;
        }
        String key = from + ":" + n;
        BigInteger known = memo.get(key);
        if (known == null) {
            known = BigInteger.ZERO;
            for (int next : wood.ways[from]) {
                known = known.add(walks(next, to, n - 1, memo));
            }
            memo.put(key, known);
        }
        return known;
    }

    public int fog(int from, int to, int n, int what) {
        if (!isPlace(from) || !isPlace(to) || n < 0 || n > 15 || what < 0 || what > 1) {
            return -2;
        }
        BigInteger above = walks(from, to, n, new HashMap<>());
        BigInteger below = BigInteger.valueOf(4).pow(n);
        BigInteger common = above.gcd(below);
        return (what == 0 ? above : below).divide(common).intValueExact();
    }

    public int likely(int from, int n) {
        if (!isPlace(from) || n < 0 || n > 15) {
            return -2;
        }
        int best = 0;
        for (int p = 1; p < wood.places; p++) {
            if (walks(from, p, n, new HashMap<>()).compareTo(walks(from, best, n, new HashMap<>())) > 0) {
                best = p;
            }
        }
        return best;
    }

    public int can(int from, int n) {
        return isPlace(from) && n >= 0 && n <= 15 ? bits(reaches(from, n).get(n)) : -2;
    }

    // ---- changes, draws, counts ----

    public int lead(int place, int wind, int to) {
        if (!isPlace(place) || !isWind(wind) || !isPlace(to)) {
            return -2;
        }
        if (!steps.isEmpty()) {
            return -5;
        }
        int was = wood.ways[place][wind];
        wood = wood.copy();
        wood.ways[place][wind] = to;
        return was;
    }

    public int marks(int place, int n) {
        if (!isPlace(place) || n < 0 || n > 9) {
            return -2;
        }
        if (!steps.isEmpty()) {
            return -5;
        }
        int was = wood.marks[place];
        wood = wood.copy();
        wood.marks[place] = n;
        return was;
    }

    private List<Mind> drawnMinds(int seed, int pupil, int n) {
        List<Mind> out = new ArrayList<>();
        out.add(now(pupil));
        BigInteger x = BigInteger.valueOf(seed);
        for (int i = 0; i < n; i++) {
            x = x.multiply(BigInteger.valueOf(1103515245)).add(BigInteger.valueOf(12345))
                    .mod(BigInteger.valueOf(2147483648L));
            int w = x.divide(BigInteger.valueOf(65536)).mod(BigInteger.valueOf(4)).intValue();
            out.add(wood.step(out.get(i), lies(pupil), w));
        }
        return out;
    }

    public int drawn(int seed, int pupil, int n, int what) {
        if (seed < 0 || seed > 2000000000 || !isPupil(pupil) || n < 0 || n > 40 || what < 0 || what > 2) {
            return -2;
        }
        List<Mind> minds = drawnMinds(seed, pupil, n);
        return what == 0 ? minds.get(n).at : what == 1 ? minds.get(n).thinks
                : (int) minds.stream().filter(Model::sure).count();
    }

    public int luck(int seed, int m, int pupil, int n) {
        if (seed < 0 || seed > 2000000000 || m < 1 || m > 20 || !isPupil(pupil) || n < 0 || n > 40) {
            return -2;
        }
        int out = 0;
        for (int s = seed; s < seed + m; s++) {
            out += sure(drawnMinds(s, pupil, n).get(n)) ? 1 : 0;
        }
        return out;
    }

    public int count(int what) {
        if (what == 6) {
            return tape.length();
        }
        if (what == 8) {
            return (int) Arrays.stream(slots).filter(s -> s != null).count();
        }
        if (what < 0 || what > 8) {
            return -1;
        }
        if (wood == null) {
            return 0;
        }
        int ways = 0;
        int marks = 0;
        for (int p = 0; p < wood.places; p++) {
            for (int to : wood.ways[p]) {
                ways += to == p ? 0 : 1;
            }
            marks += wood.marks[p] == 0 ? 0 : 1;
        }
        return new int[] {wood.places, ways, marks, wood.pupils.size(), wood.lessons.size(), wood.lines, 0,
                steps.size()}[what];
    }

    public int image(int k) {
        if (k < 0 || k > 2) {
            return -2;
        }
        kept[k] = true;
        keptWood[k] = wood;
        keptSteps[k] = new ArrayList<>(steps);
        return 0;
    }

    public int back(int k) {
        if (k < 0 || k > 2) {
            return -2;
        }
        if (!kept[k]) {
            return -6;
        }
        wood = keptWood[k];
        steps = new ArrayList<>(keptSteps[k]);
        return 0;
    }

    public int row(int slot, int width, int n) {
        if (slot < 0 || slot > 3 || width < 0 || width > 3 || n > 60) {
            return -2;
        }
        if (n < 0) {
            return -3;
        }
        slots[slot] = new long[n];
        widths[slot] = width;
        return 0;
    }

    public int write(int slot, int i, long v) {
        if (slot < 0 || slot > 3) {
            return -2;
        }
        if (slots[slot] == null) {
            return -6;
        }
        if (i < 0 || i >= slots[slot].length) {
            return -7;
        }
        int shift = 64 - (8 << widths[slot]);
        slots[slot][i] = v << shift >> shift;
        return 0;
    }

    public int paste(int slot, int i, int to, int k, int n) {
        if (slot < 0 || slot > 3 || to < 0 || to > 3) {
            return -2;
        }
        if (slots[slot] == null || slots[to] == null) {
            return -6;
        }
        if (widths[slot] != widths[to]) {
            return -8;
        }
        if (i < 0 || k < 0 || n < 0 || (long) i + n > slots[slot].length || (long) k + n > slots[to].length) {
            return -7;
        }
        long[] taken = Arrays.copyOfRange(slots[slot], i, i + n);
        for (int j = 0; j < n; j++) {
            slots[to][k + j] = taken[j];
        }
        return 0;
    }
}
