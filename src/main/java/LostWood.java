import java.util.Arrays;

/** A wood told as a text, the pupils who get lost in it, and what can be asked of both. */
public final class LostWood {
    public static final int NONE = -1;

    private static final int NO_SUCH = -2;
    private static final int BELOW_ZERO = -3;
    private static final int FAULTY = -4;
    private static final int NOT_NOW = -5;
    private static final int NOTHING = -6;
    private static final int BEYOND = -7;
    private static final int UNLIKE_WIDTHS = -8;

    private static final int MOST_PLACES = 10;
    private static final int SETS = 1 << MOST_PLACES;
    private static final int WINDS = 4;
    private static final int MARKS = 10;
    private static final int MOST_PUPILS = 4;
    private static final int MOST_LESSONS = 5;
    private static final int MOST_STEPS = 60;
    private static final int MOST_BYTES = 1000;
    private static final int SLOTS = 4;
    private static final int WIDTHS = 4;
    private static final int MOST_NUMBERS = 60;
    private static final int IMAGES = 3;
    private static final int MOST_FOG = 15;
    private static final int MOST_DRAWN = 40;
    private static final int MOST_LUCK = 20;
    private static final int MOST_SEED = 2000000000;
    /** Above any way's steps, so that a cost tells dark PLACES and steps apart. */
    private static final int DARKNESS = 1000;

    private final Reader reader = new Reader();
    private final Wood here = new Wood();
    private final Party party = new Party();
    private final Walker walker = new Walker();
    private final Rows rows = new Rows();
    private final Minds minds = new Minds();
    private final Sets sets = new Sets();
    private final Plans plans = new Plans();
    private final Courses courses = new Courses();
    private final Travel travel = new Travel();
    private final Wood[] imageWoods = new Wood[IMAGES];
    private final Party[] imageParties = new Party[IMAGES];

    public LostWood() {
    }

    // ---- the TAPE and the WOOD ----

    public int feed(int a, int b, int c, int d, int e) {
        if (!reader.hasRoom(20)) {
            return NONE;
        }
        reader.append(a);
        reader.append(b);
        reader.append(c);
        reader.append(d);
        reader.append(e);
        return reader.length;
    }

    public int end(int n) {
        if (n < 0 || n > reader.length) {
            return NONE;
        }
        reader.length = n;
        return n;
    }

    public int wood() {
        if (!reader.parse()) {
            return FAULTY;
        }
        reader.length = 0;
        here.copyFrom(reader.draft);
        party.assemble(here);
        plans.ready = false;
        return here.lines;
    }

    public int fault(int what) {
        if (what == 0) {
            return reader.faultKind;
        }
        return what == 1 ? reader.faultPlace : NONE;
    }

    public int leads(int place, int wind) {
        if (!here.hasPlace(place) || !isWind(wind)) {
            return NO_SUCH;
        }
        return here.after(place, wind);
    }

    public int mark(int place) {
        return here.hasPlace(place) ? here.sign(place) : NO_SUCH;
    }

    public int becomes(int set, int wind) {
        if (!here.hasSet(set) || !isWind(wind)) {
            return NO_SUCH;
        }
        return here.spread(set, wind);
    }

    public int seen(int set, int mark) {
        if (!here.hasSet(set) || !isMark(mark)) {
            return NO_SUCH;
        }
        return here.showing(set, mark);
    }

    // ---- the PUPILS and their STEPS ----

    public int where(int pupil) {
        return stand(pupil) ? walker.at : NO_SUCH;
    }

    public int thinks(int pupil) {
        return stand(pupil) ? walker.thought : NO_SUCH;
    }

    public int pupil(int pupil, int what) {
        if (!stand(pupil)) {
            return NO_SUCH;
        }
        switch (what) {
            case 0:
                return walker.turn;
            case 1:
                return walker.doubt();
            case 2:
                return walker.isSure() ? 1 : 0;
            case 3:
                return walker.isAstray() ? 1 : 0;
            default:
                return NO_SUCH;
        }
    }

    public int goes(int pupil, int wind) {
        if (!isWind(wind) || !stand(pupil)) {
            return NO_SUCH;
        }
        if (party.steps >= MOST_STEPS) {
            return NOT_NOW;
        }
        walker.step(here, wind);
        party.keepStep(pupil, walker);
        return walker.at;
    }

    public int most() {
        if (!here.stands()) {
            return NO_SUCH;
        }
        int greatest = 0;
        int out = 0;
        for (int p = 0; p < MOST_PUPILS && stand(p); p++) {
            int doubt = walker.doubt();
            if (doubt > greatest) {
                greatest = doubt;
                out = 0;
            }
            if (doubt == greatest) {
                out |= 1 << p;
            }
        }
        return out;
    }

    public int who(int what) {
        if (!here.stands() || what < 0 || what > 1) {
            return NO_SUCH;
        }
        int out = 0;
        for (int p = 0; p < MOST_PUPILS && stand(p); p++) {
            if (what == 0 ? walker.isSure() : walker.isAstray()) {
                out |= 1 << p;
            }
        }
        return out;
    }

    public int undo() {
        if (!here.stands()) {
            return NO_SUCH;
        }
        return party.takeBack() ? party.steps : NOT_NOW;
    }

    public int anew() {
        if (!here.stands()) {
            return NO_SUCH;
        }
        int were = party.steps;
        // The WOOD can't change while one has gone, so the beginning is still as told.
        party.assemble(here);
        return were;
    }

    // ---- WALKS that a SLOT tells ----

    public int would(int slot, int pupil) {
        int refused = refuseWalk(slot, pupil);
        if (refused != 0) {
            return refused;
        }
        walkRow(slot);
        return walker.at;
    }

    public int think(int slot, int pupil) {
        int refused = refuseWalk(slot, pupil);
        if (refused != 0) {
            return refused;
        }
        walkRow(slot);
        return walker.thought;
    }

    public int knows(int slot, int pupil) {
        int refused = refuseWalk(slot, pupil);
        return refused != 0 ? refused : stepsUntil(slot, true);
    }

    public int loses(int slot, int pupil) {
        int refused = refuseWalk(slot, pupil);
        return refused != 0 ? refused : stepsUntil(slot, false);
    }

    public int doubts(int slot, int pupil) {
        int refused = refuseWalk(slot, pupil);
        if (refused != 0) {
            return refused;
        }
        int greatest = walker.doubt();
        for (int i = 0; i < rows.size(slot) && i < MOST_NUMBERS; i++) {
            walker.step(here, rows.small(slot, i));
            greatest = Math.max(greatest, walker.doubt());
        }
        return greatest;
    }

    // ---- the first WALKS to DOUBT, to be LOST, to KNOW ----

    public int blur(int pupil, int n) {
        return n >= 1 && seek(pupil, Minds.DOUBTING, n) ? minds.goalLength() : NO_SUCH;
    }

    public int blurs(int pupil, int n, int i) {
        return n >= 1 && seek(pupil, Minds.DOUBTING, n) ? minds.goalWind(i) : NO_SUCH;
    }

    public int stray(int pupil) {
        return seek(pupil, Minds.ASTRAY, 0) ? minds.goalLength() : NO_SUCH;
    }

    public int strays(int pupil, int i) {
        return seek(pupil, Minds.ASTRAY, 0) ? minds.goalWind(i) : NO_SUCH;
    }

    public int home(int pupil) {
        return seek(pupil, Minds.SURE, 0) ? minds.goalLength() : NO_SUCH;
    }

    public int homes(int pupil, int i) {
        return seek(pupil, Minds.SURE, 0) ? minds.goalWind(i) : NO_SUCH;
    }

    public int states(int pupil) {
        return seek(pupil, Minds.NEVER, 0) ? minds.size : NO_SUCH;
    }

    // ---- PLANS ----

    public int plan(int set) {
        if (!here.hasSet(set)) {
            return NO_SUCH;
        }
        plans.prepare(here);
        return plans.deepest(set);
    }

    public int first(int set) {
        if (!here.hasSet(set)) {
            return NO_SUCH;
        }
        plans.prepare(here);
        return plans.leastWind(set);
    }

    public int hardest() {
        if (!here.stands()) {
            return NO_SUCH;
        }
        plans.prepare(here);
        int greatest = NONE;
        for (int p = 0; p < here.places; p++) {
            for (int q = 0; q < p; q++) {
                greatest = Math.max(greatest, plans.deepest(1 << p | 1 << q));
            }
        }
        return greatest;
    }

    // ---- PLACES that are ALIKE ----

    public int alike(int place, int other) {
        if (!arePlaces(place, other)) {
            return NO_SUCH;
        }
        return lookSame(place, other) ? 1 : 0;
    }

    public int kinds() {
        if (!here.stands()) {
            return NO_SUCH;
        }
        int out = 0;
        for (int p = 0; p < here.places; p++) {
            boolean fresh = true;
            for (int q = 0; q < p && fresh; q++) {
                fresh = !lookSame(q, p);
            }
            out += fresh ? 1 : 0;
        }
        return out;
    }

    public int tells(int place, int other) {
        if (!arePlaces(place, other)) {
            return NO_SUCH;
        }
        sets.seek(here, 1 << place | 1 << other, Sets.UNLIKE);
        return sets.goalLength();
    }

    public int told(int place, int other, int i) {
        if (!arePlaces(place, other)) {
            return NO_SUCH;
        }
        sets.seek(here, 1 << place | 1 << other, Sets.UNLIKE);
        return sets.goalWind(i);
    }

    public int bares(int place, int other) {
        return arePlaces(place, other) ? Integer.bitCount(leastBare(place, other)) : NO_SUCH;
    }

    public int bared(int place, int other) {
        return arePlaces(place, other) ? leastBare(place, other) : NO_SUCH;
    }

    // ---- all to one PLACE, two who meet ----

    public int gather(int set) {
        if (!here.hasSet(set)) {
            return NO_SUCH;
        }
        sets.seek(here, set, Sets.SINGLE);
        return sets.goalLength();
    }

    public int gathers(int set, int i) {
        if (!here.hasSet(set)) {
            return NO_SUCH;
        }
        sets.seek(here, set, Sets.SINGLE);
        return sets.goalWind(i);
    }

    public int roundabout(int set) {
        if (!here.hasSet(set)) {
            return NO_SUCH;
        }
        return sets.leastGathered(here, set);
    }

    public int meet(int place, int other) {
        if (!arePlaces(place, other)) {
            return NO_SUCH;
        }
        return stepsToMeet(place, other);
    }

    public int met(int place, int other) {
        if (!arePlaces(place, other)) {
            return NO_SUCH;
        }
        int steps = stepsToMeet(place, other);
        if (steps == NONE) {
            return NONE;
        }
        return lowest(reach(place, steps) & reach(other, steps));
    }

    // ---- what fits what was seen ----

    public int read(int slot) {
        int refused = refuseReading(slot);
        return refused != 0 ? refused : fitting(slot, here.all());
    }

    public int began(int slot) {
        int refused = refuseReading(slot);
        if (refused != 0) {
            return refused;
        }
        int out = 0;
        for (int p = 0; p < here.places; p++) {
            if (fitting(slot, 1 << p) != 0) {
                out |= 1 << p;
            }
        }
        return out;
    }

    public int ask(int slot) {
        int refused = refuseReading(slot);
        return refused != 0 ? refused : bestWind(fitting(slot, here.all()));
    }

    public int leaves(int slot) {
        int refused = refuseReading(slot);
        if (refused != 0) {
            return refused;
        }
        int set = fitting(slot, here.all());
        return worstLeft(here.spread(set, bestWind(set)));
    }

    // ---- COURSES ----

    public int course(int slot, int pupil) {
        int refused = refuseWalk(slot, pupil);
        if (refused != 0) {
            return refused;
        }
        courses.tryAll(here, walker, rows, slot);
        return courses.greatest;
    }

    public int lesson(int slot, int pupil, int i) {
        int refused = refuseWalk(slot, pupil);
        if (refused != 0) {
            return refused;
        }
        courses.tryAll(here, walker, rows, slot);
        return i >= 0 && i < here.lessons && i < MOST_LESSONS ? courses.worst[i] : NONE;
    }

    public int spoilt(int slot, int pupil) {
        int refused = refuseWalk(slot, pupil);
        if (refused != 0) {
            return refused;
        }
        courses.tryAll(here, walker, rows, slot);
        return courses.least;
    }

    // ---- bare ways, FOG ----

    public int route(int place, int other) {
        return arePlaces(place, other) ? travel.cheapest(here, place, other, 0) : NO_SUCH;
    }

    public int dark(int place, int other) {
        if (!arePlaces(place, other)) {
            return NO_SUCH;
        }
        int cost = travel.cheapest(here, place, other, DARKNESS);
        return cost == NONE ? NONE : cost / DARKNESS;
    }

    public int detour(int place, int other) {
        if (!arePlaces(place, other)) {
            return NO_SUCH;
        }
        int cost = travel.cheapest(here, place, other, DARKNESS);
        return cost == NONE ? NONE : cost % DARKNESS;
    }

    public int fog(int from, int to, int n, int what) {
        if (!arePlaces(from, to) || !isFogLength(n) || what < 0 || what > 1) {
            return NO_SUCH;
        }
        travel.drift(here, from, n);
        int above = travel.chance(to);
        if (above == 0) {
            return what;
        }
        // All WALKS are a power of two (at most 2 to the 30), so halving alone gives lowest terms.
        int twos = Math.min(Integer.numberOfTrailingZeros(above), 2 * n);
        return what == 0 ? above >> twos : 1 << (2 * n - twos);
    }

    public int likely(int from, int n) {
        if (!here.hasPlace(from) || !isFogLength(n)) {
            return NO_SUCH;
        }
        travel.drift(here, from, n);
        int best = 0;
        for (int p = 1; p < here.places; p++) {
            if (travel.chance(p) > travel.chance(best)) {
                best = p;
            }
        }
        return best;
    }

    public int can(int from, int n) {
        return here.hasPlace(from) && isFogLength(n) ? reach(from, n) : NO_SUCH;
    }

    // ---- the WOOD made otherwise ----

    public int lead(int place, int wind, int to) {
        if (!arePlaces(place, to) || !isWind(wind)) {
            return NO_SUCH;
        }
        if (party.steps > 0) {
            return NOT_NOW;
        }
        int was = here.after(place, wind);
        here.setWay(place, wind, to);
        plans.ready = false;
        return was;
    }

    public int marks(int place, int n) {
        if (!here.hasPlace(place) || !isMark(n)) {
            return NO_SUCH;
        }
        if (party.steps > 0) {
            return NOT_NOW;
        }
        int was = here.sign(place);
        here.setSign(place, n);
        plans.ready = false;
        return was;
    }

    // ---- walks drawn ----

    public int drawn(int seed, int pupil, int n, int what) {
        if (!isDraw(seed, n) || what < 0 || what > 2 || !stand(pupil)) {
            return NO_SUCH;
        }
        int sure = drawWalk(seed, n);
        if (what == 2) {
            return sure;
        }
        return what == 0 ? walker.at : walker.thought;
    }

    public int luck(int seed, int m, int pupil, int n) {
        if (!isDraw(seed, n) || m < 1 || m > MOST_LUCK || !here.hasPupil(pupil)) {
            return NO_SUCH;
        }
        int out = 0;
        for (int k = 0; k < m && stand(pupil); k++) {
            drawWalk(seed + k, n);
            out += walker.isSure() ? 1 : 0;
        }
        return out;
    }

    // ---- counts, images, SLOTS ----

    public int count(int what) {
        switch (what) {
            case 0:
                return here.places;
            case 1:
                return here.waysElsewhere();
            case 2:
                return Integer.bitCount(here.marked());
            case 3:
                return here.pupils;
            case 4:
                return here.lessons;
            case 5:
                return here.lines;
            case 6:
                return reader.length;
            case 7:
                return party.steps;
            case 8:
                return rows.kept();
            default:
                return NONE;
        }
    }

    public int image(int k) {
        if (k < 0 || k >= IMAGES) {
            return NO_SUCH;
        }
        if (imageWoods[k] == null || imageParties[k] == null) {
            imageWoods[k] = new Wood();
            imageParties[k] = new Party();
        }
        imageWoods[k].copyFrom(here);
        imageParties[k].copyFrom(party);
        return 0;
    }

    public int back(int k) {
        if (k < 0 || k >= IMAGES) {
            return NO_SUCH;
        }
        if (imageWoods[k] == null || imageParties[k] == null) {
            return NOTHING;
        }
        here.copyFrom(imageWoods[k]);
        party.copyFrom(imageParties[k]);
        plans.ready = false;
        return 0;
    }

    public int row(int slot, int width, int n) {
        if (!isSlot(slot) || width < 0 || width >= WIDTHS || n > MOST_NUMBERS) {
            return NO_SUCH;
        }
        if (n < 0) {
            return BELOW_ZERO;
        }
        rows.make(slot, width, n);
        return 0;
    }

    public int write(int slot, int i, long v) {
        if (!isSlot(slot)) {
            return NO_SUCH;
        }
        if (!rows.has(slot)) {
            return NOTHING;
        }
        if (i < 0 || i >= rows.size(slot)) {
            return BEYOND;
        }
        rows.put(slot, i, v);
        return 0;
    }

    public int paste(int slot, int i, int to, int k, int n) {
        if (!isSlot(slot) || !isSlot(to)) {
            return NO_SUCH;
        }
        if (!rows.has(slot) || !rows.has(to)) {
            return NOTHING;
        }
        if (rows.width(slot) != rows.width(to)) {
            return UNLIKE_WIDTHS;
        }
        if (!rows.covers(slot, i, n) || !rows.covers(to, k, n)) {
            return BEYOND;
        }
        rows.move(slot, i, to, k, n);
        return 0;
    }

    // ---- what the face shares ----

    private static boolean isWind(int wind) {
        return wind >= 0 && wind < WINDS;
    }

    private static boolean isMark(int mark) {
        return mark >= 0 && mark < MARKS;
    }

    private static boolean isSlot(int slot) {
        return slot >= 0 && slot < SLOTS;
    }

    private static boolean isFogLength(int n) {
        return n >= 0 && n <= MOST_FOG;
    }

    private static boolean isDraw(int seed, int n) {
        return seed >= 0 && seed <= MOST_SEED && n >= 0 && n <= MOST_DRAWN;
    }

    private static int lowest(int set) {
        return set == 0 ? NONE : Integer.numberOfTrailingZeros(set);
    }

    private boolean arePlaces(int place, int other) {
        return here.hasPlace(place) && here.hasPlace(other);
    }

    /** Puts the walker where a PUPIL is now; false: there is no such PUPIL. */
    private boolean stand(int pupil) {
        if (!here.hasPupil(pupil)) {
            return false;
        }
        walker.place(party.at[pupil], party.thought[pupil], here.turns[pupil]);
        return true;
    }

    /** What would() and its like refuse with; 0: the walker stands ready, the row is a WALK. */
    private int refuseWalk(int slot, int pupil) {
        if (!isSlot(slot) || !stand(pupil)) {
            return NO_SUCH;
        }
        if (!rows.has(slot)) {
            return NOTHING;
        }
        for (int i = 0; i < rows.size(slot) && i < MOST_NUMBERS; i++) {
            if (!rows.isWithin(slot, i, WINDS)) {
                return NO_SUCH;
            }
        }
        return 0;
    }

    private void walkRow(int slot) {
        for (int i = 0; i < rows.size(slot) && i < MOST_NUMBERS; i++) {
            walker.step(here, rows.small(slot, i));
        }
    }

    private int stepsUntil(int slot, boolean sure) {
        int length = Math.min(rows.size(slot), MOST_NUMBERS);
        for (int i = 0; i <= length; i++) {
            if (sure ? walker.isSure() : walker.isAstray()) {
                return i;
            }
            if (i < length) {
                walker.step(here, rows.small(slot, i));
            }
        }
        return NONE;
    }

    private boolean seek(int pupil, int aim, int least) {
        if (!stand(pupil)) {
            return false;
        }
        minds.aimAt(walker.turn, aim, least);
        minds.explore(here, walker.at * SETS + walker.thought);
        return true;
    }

    private boolean lookSame(int place, int other) {
        sets.seek(here, 1 << place | 1 << other, Sets.UNLIKE);
        return sets.goal == NONE;
    }

    private int leastBare(int place, int other) {
        sets.seek(here, 1 << place | 1 << other, Sets.NEVER);
        int marked = here.marked();
        // With no mark left all are ALIKE, so this one always does.
        int best = marked;
        for (int bare = 0; bare < marked; bare++) {
            boolean fewer = Integer.bitCount(bare) < Integer.bitCount(best);
            if ((bare & ~marked) == 0 && fewer && sets.allShowOne(here, bare)) {
                best = bare;
            }
        }
        return best;
    }

    private int reach(int place, int steps) {
        int set = 1 << place;
        for (int n = 0; n < steps; n++) {
            set = here.spreadAnyhow(set);
        }
        return set;
    }

    private int stepsToMeet(int place, int other) {
        int one = 1 << place;
        int two = 1 << other;
        // There are no more pairs of PLACES, so none is met first behind more steps.
        for (int n = 0; n <= MOST_PLACES * MOST_PLACES; n++) {
            if ((one & two) != 0) {
                return n;
            }
            one = here.spreadAnyhow(one);
            two = here.spreadAnyhow(two);
        }
        return NONE;
    }

    private int refuseReading(int slot) {
        if (!isSlot(slot) || !here.stands()) {
            return NO_SUCH;
        }
        if (!rows.has(slot)) {
            return NOTHING;
        }
        if (rows.size(slot) % 2 != 0) {
            return NO_SUCH;
        }
        for (int i = 0; i < rows.size(slot) && i < MOST_NUMBERS; i++) {
            if (!rows.isWithin(slot, i, i % 2 == 0 ? WINDS + 1 : MARKS)) {
                return NO_SUCH;
            }
        }
        return 0;
    }

    private int fitting(int slot, int from) {
        int set = from;
        for (int i = 0; i + 1 < rows.size(slot) && i < MOST_NUMBERS; i += 2) {
            int wind = rows.small(slot, i);
            int gone = wind == WINDS ? set : here.spread(set, wind);
            set = here.showing(gone, rows.small(slot, i + 1));
        }
        return set;
    }

    private int bestWind(int set) {
        int best = 0;
        for (int wind = 1; wind < WINDS; wind++) {
            if (worstLeft(here.spread(set, wind)) < worstLeft(here.spread(set, best))) {
                best = wind;
            }
        }
        return best;
    }

    private int worstLeft(int set) {
        int greatest = 0;
        for (int mark = 0; mark < MARKS; mark++) {
            greatest = Math.max(greatest, Integer.bitCount(here.showing(set, mark)));
        }
        return greatest;
    }

    /** Walks the walker as drawn; how often it KNOWS on the way, both ends too. */
    private int drawWalk(int seed, int n) {
        long x = seed;
        int sure = walker.isSure() ? 1 : 0;
        for (int i = 0; i < n; i++) {
            x = (1103515245L * x + 12345L) & 0x7fffffffL;
            walker.step(here, (int) (x >> 16) & 3);
            sure += walker.isSure() ? 1 : 0;
        }
        return sure;
    }

    /** The WOOD as told: with no LINES there is none, and then no PLACE, PUPIL or LESSON either. */
    private static final class Wood {
        static final int BARE = 0;
        static final int LIE = 1;
        static final int SHUT = 2;

        final int[] ways = new int[MOST_PLACES * WINDS];
        final int[] signs = new int[MOST_PLACES];
        final int[] starts = new int[MOST_PUPILS];
        final int[] turns = new int[MOST_PUPILS];
        final int[] thoughts = new int[MOST_PUPILS];
        final int[] lessonKinds = new int[MOST_LESSONS];
        final int[] lessonNumbers = new int[MOST_LESSONS];
        final int[] lessonWinds = new int[MOST_LESSONS];
        int places;
        int pupils;
        int lessons;
        int lines;

        void clear() {
            Arrays.fill(signs, 0);
            for (int i = 0; i < ways.length; i++) {
                ways[i] = i / WINDS;
            }
            places = 0;
            pupils = 0;
            lessons = 0;
            lines = 0;
        }

        void copyFrom(Wood other) {
            System.arraycopy(other.ways, 0, ways, 0, ways.length);
            System.arraycopy(other.signs, 0, signs, 0, signs.length);
            System.arraycopy(other.starts, 0, starts, 0, starts.length);
            System.arraycopy(other.turns, 0, turns, 0, turns.length);
            System.arraycopy(other.thoughts, 0, thoughts, 0, thoughts.length);
            System.arraycopy(other.lessonKinds, 0, lessonKinds, 0, lessonKinds.length);
            System.arraycopy(other.lessonNumbers, 0, lessonNumbers, 0, lessonNumbers.length);
            System.arraycopy(other.lessonWinds, 0, lessonWinds, 0, lessonWinds.length);
            places = other.places;
            pupils = other.pupils;
            lessons = other.lessons;
            lines = other.lines;
        }

        boolean stands() {
            return lines > 0;
        }

        boolean hasPlace(int place) {
            return place >= 0 && place < places && place < MOST_PLACES;
        }

        boolean hasPupil(int pupil) {
            return pupil >= 0 && pupil < pupils && pupil < MOST_PUPILS;
        }

        boolean hasSet(int set) {
            return set >= 1 && set <= all();
        }

        int all() {
            return (1 << places) - 1;
        }

        int after(int place, int wind) {
            return hasPlace(place) && isWind(wind) ? ways[place * WINDS + wind] : place;
        }

        int sign(int place) {
            return hasPlace(place) ? signs[place] : 0;
        }

        void setWay(int place, int wind, int to) {
            if (hasPlace(place) && isWind(wind) && hasPlace(to)) {
                ways[place * WINDS + wind] = to;
            }
        }

        void setSign(int place, int mark) {
            if (hasPlace(place)) {
                signs[place] = mark;
            }
        }

        void addPupil(int place, int turn, int thought) {
            if (pupils < MOST_PUPILS) {
                starts[pupils] = place;
                turns[pupils] = turn;
                thoughts[pupils] = thought;
                pupils++;
            }
        }

        void addLesson(int kind, int number, int wind) {
            if (lessons < MOST_LESSONS) {
                lessonKinds[lessons] = kind;
                lessonNumbers[lessons] = number;
                lessonWinds[lessons] = wind;
                lessons++;
            }
        }

        int spread(int set, int wind) {
            if (!isWind(wind)) {
                return set;
            }
            int out = 0;
            for (int p = 0; p < places && p < MOST_PLACES; p++) {
                if ((set >> p & 1) != 0) {
                    out |= 1 << ways[p * WINDS + wind];
                }
            }
            return out;
        }

        int spreadAnyhow(int set) {
            int out = 0;
            for (int wind = 0; wind < WINDS; wind++) {
                out |= spread(set, wind);
            }
            return out;
        }

        int showing(int set, int mark) {
            int out = 0;
            for (int p = 0; p < places && p < MOST_PLACES; p++) {
                if ((set >> p & 1) != 0 && signs[p] == mark) {
                    out |= 1 << p;
                }
            }
            return out;
        }

        int marked() {
            return all() & ~showing(all(), 0);
        }

        int waysElsewhere() {
            int out = 0;
            for (int p = 0; p < places; p++) {
                for (int wind = 0; wind < WINDS; wind++) {
                    out += after(p, wind) != p ? 1 : 0;
                }
            }
            return out;
        }
    }

    /** The TAPE, and what reads a WOOD from it. */
    private static final class Reader {
        private static final int END = 0;
        private static final int WORD = 1;
        private static final int NUMBER = 2;
        private static final int SIGN = 3;
        private static final int WRONG = 4;
        private static final int BLANK = 5;

        private static final int MISPLACED = 1;
        private static final int OUT_OF_BOUNDS = 2;
        private static final int TOO_MANY = 3;

        /** Far above every bound, so that longer numbers may stay here. */
        private static final int LARGE = 1000000;

        final byte[] tape = new byte[MOST_BYTES];
        int length;
        int faultKind;
        int faultPlace = NONE;

        final Wood draft = new Wood();
        private int kind;
        private int from;
        private int behind;
        /** What a NUMBER tells; behind any other TOKEN it means nothing. */
        private int number;
        /** The number, PLACE or WIND taken last. */
        private int taken;

        boolean hasRoom(int n) {
            return length + n <= MOST_BYTES;
        }

        void append(int four) {
            for (int shift = 24; shift >= 0 && length < tape.length; shift -= 8) {
                tape[length] = (byte) (four >> shift);
                length++;
            }
        }

        /** Whether the TAPE is a WOOD: then it is the draft. */
        boolean parse() {
            draft.clear();
            faultKind = 0;
            faultPlace = NONE;
            behind = 0;
            advance();
            for (int n = 0; n <= MOST_BYTES && kind != END && takeLine() && takeSemicolon(); n++) {
                draft.lines++;
            }
            return faultKind == 0;
        }

        private int byteAt(int i) {
            return i >= 0 && i < length && i < tape.length ? tape[i] : 0;
        }

        /** Which kind of TOKEN a byte begins or goes on with. */
        private int kindAt(int i) {
            if (i < 0 || i >= length || i >= tape.length) {
                return END;
            }
            int c = tape[i];
            if (c == 32 || c == 10) {
                return BLANK;
            }
            if (c >= 'a' && c <= 'z') {
                return WORD;
            }
            if (c >= '0' && c <= '9') {
                return NUMBER;
            }
            return c == ';' ? SIGN : WRONG;
        }

        private void advance() {
            from = behind;
            for (int n = 0; n < MOST_BYTES && kindAt(from) == BLANK; n++) {
                from++;
            }
            kind = kindAt(from);
            behind = from + 1;
            number = byteAt(from) - '0';
            boolean grows = kind == WORD || kind == NUMBER;
            for (int n = 0; n < MOST_BYTES && grows && kindAt(behind) == kind; n++) {
                number = Math.min(LARGE, number * 10 + byteAt(behind) - '0');
                behind++;
            }
        }

        /** Keeps the FAULT of the TOKEN at hand; false, for those that ask for one. */
        private boolean refuse(int why) {
            faultKind = why;
            faultPlace = from;
            return false;
        }

        private boolean isWord(String word) {
            if (kind != WORD || behind - from != word.length()) {
                return false;
            }
            for (int i = 0; i < word.length(); i++) {
                if (byteAt(from + i) != word.charAt(i)) {
                    return false;
                }
            }
            return true;
        }

        private boolean takeWord(String word) {
            if (!isWord(word)) {
                return refuse(MISPLACED);
            }
            advance();
            return true;
        }

        private boolean takeNumber(int least, int greatest) {
            if (kind != NUMBER) {
                return refuse(MISPLACED);
            }
            if (number < least || number > greatest) {
                return refuse(OUT_OF_BOUNDS);
            }
            taken = number;
            advance();
            return true;
        }

        private boolean takeWind() {
            if (isWord("n")) {
                taken = 0;
            } else if (isWord("e")) {
                taken = 1;
            } else if (isWord("s")) {
                taken = 2;
            } else if (isWord("w")) {
                taken = 3;
            } else {
                return refuse(MISPLACED);
            }
            advance();
            return true;
        }

        private boolean takeSemicolon() {
            if (kind != SIGN) {
                return refuse(MISPLACED);
            }
            advance();
            return true;
        }

        private boolean takeLine() {
            if (draft.lines == 0) {
                return takeWoodLine();
            }
            if (isWord("way")) {
                return takeWayLine();
            }
            if (isWord("mark")) {
                return takeMarkLine();
            }
            if (isWord("pupil")) {
                return takePupilLine();
            }
            if (isWord("lesson")) {
                return takeLessonLine();
            }
            return refuse(MISPLACED);
        }

        private boolean takeWoodLine() {
            if (!takeWord("wood") || !takeWord("places") || !takeNumber(2, MOST_PLACES)) {
                return false;
            }
            draft.places = taken;
            return true;
        }

        private boolean takeWayLine() {
            advance();
            if (!takeNumber(0, draft.places - 1)) {
                return false;
            }
            int place = taken;
            if (!takeWind()) {
                return false;
            }
            int wind = taken;
            if (!takeWord("to") || !takeNumber(0, draft.places - 1)) {
                return false;
            }
            int to = taken;
            draft.setWay(place, wind, to);
            if (isWord("back")) {
                advance();
                draft.setWay(to, (wind + 2) % WINDS, place);
            }
            return true;
        }

        private boolean takeMarkLine() {
            advance();
            if (!takeNumber(0, draft.places - 1)) {
                return false;
            }
            int place = taken;
            if (!takeNumber(0, MARKS - 1)) {
                return false;
            }
            draft.setSign(place, taken);
            return true;
        }

        private boolean takePupilLine() {
            if (draft.pupils >= MOST_PUPILS) {
                return refuse(TOO_MANY);
            }
            advance();
            if (!takeWord("in") || !takeNumber(0, draft.places - 1)) {
                return false;
            }
            int place = taken;
            if (!takeWord("lies") || !takeNumber(0, WINDS - 1)) {
                return false;
            }
            int turn = taken;
            if (!takeWord("thinks") || !takeNumber(0, draft.places - 1)) {
                return false;
            }
            int thought = 1 << taken;
            for (int n = 0; n < MOST_BYTES && kind == NUMBER; n++) {
                if (!takeNumber(0, draft.places - 1)) {
                    return false;
                }
                thought |= 1 << taken;
            }
            draft.addPupil(place, turn, thought);
            return true;
        }

        private boolean takeLessonLine() {
            if (draft.lessons >= MOST_LESSONS) {
                return refuse(TOO_MANY);
            }
            advance();
            boolean bare = isWord("bare");
            if (bare || isWord("lies")) {
                advance();
                if (!takeNumber(bare ? 0 : 1, bare ? draft.places - 1 : WINDS - 1)) {
                    return false;
                }
                draft.addLesson(bare ? Wood.BARE : Wood.LIE, taken, 0);
                return true;
            }
            if (!takeWord("shut") || !takeNumber(0, draft.places - 1)) {
                return false;
            }
            int place = taken;
            if (!takeWind()) {
                return false;
            }
            draft.addLesson(Wood.SHUT, place, taken);
            return true;
        }
    }

    /** One who walks: where it is, what it THINKS, and how far round its compass lies. */
    private static final class Walker {
        int at;
        int thought;
        int turn;

        void place(int newAt, int newThought, int newTurn) {
            at = newAt;
            thought = newThought;
            turn = newTurn;
        }

        void step(Wood wood, int wind) {
            at = wood.after(at, (wind + turn) % WINDS);
            int mark = wood.sign(at);
            int fits = wood.showing(wood.spread(thought, wind), mark);
            thought = fits != 0 ? fits : wood.showing(wood.all(), mark);
        }

        int doubt() {
            return Integer.bitCount(thought);
        }

        boolean isSure() {
            return thought == 1 << at;
        }

        boolean isAstray() {
            return (thought >> at & 1) == 0;
        }
    }

    /** The PUPILS now, and of each STEP whose it was and how it stood ahead of it. */
    private static final class Party {
        final int[] at = new int[MOST_PUPILS];
        final int[] thought = new int[MOST_PUPILS];
        final int[] whose = new int[MOST_STEPS];
        final int[] wasAt = new int[MOST_STEPS];
        final int[] wasThought = new int[MOST_STEPS];
        int steps;

        void assemble(Wood wood) {
            for (int p = 0; p < MOST_PUPILS; p++) {
                at[p] = wood.starts[p];
                thought[p] = wood.thoughts[p];
            }
            steps = 0;
        }

        void copyFrom(Party other) {
            System.arraycopy(other.at, 0, at, 0, at.length);
            System.arraycopy(other.thought, 0, thought, 0, thought.length);
            System.arraycopy(other.whose, 0, whose, 0, whose.length);
            System.arraycopy(other.wasAt, 0, wasAt, 0, wasAt.length);
            System.arraycopy(other.wasThought, 0, wasThought, 0, wasThought.length);
            steps = other.steps;
        }

        void keepStep(int pupil, Walker gone) {
            if (steps >= MOST_STEPS || pupil < 0 || pupil >= MOST_PUPILS) {
                return;
            }
            whose[steps] = pupil;
            wasAt[steps] = at[pupil];
            wasThought[steps] = thought[pupil];
            steps++;
            at[pupil] = gone.at;
            thought[pupil] = gone.thought;
        }

        boolean takeBack() {
            if (steps < 1 || steps > MOST_STEPS) {
                return false;
            }
            steps--;
            int pupil = whose[steps];
            if (pupil >= 0 && pupil < MOST_PUPILS) {
                at[pupil] = wasAt[steps];
                thought[pupil] = wasThought[steps];
            }
            return true;
        }
    }

    /**
     * Goes through states by WINDS, the nearest first, of equally near ones the least WALK first:
     * so the first goal that comes up is reached by the first WALK.
     */
    private abstract static class Search {
        static final int NEVER = 0;

        /** In which round a state was met last: no need to sweep the rows for each search. */
        private final int[] stamps;
        final int[] found;
        /** Which found one a state was met from (its index, times 4), and by which WIND. */
        private final int[] links;
        private int round;
        int size;
        /** The index of the goal in found, or NONE. */
        int goal = NONE;

        Search(int capacity) {
            int room = Math.max(1, capacity);
            stamps = new int[room];
            found = new int[room];
            links = new int[room];
        }

        abstract int next(Wood wood, int state, int wind);

        abstract boolean ends(Wood wood, int state);

        final void explore(Wood wood, int start) {
            round++;
            size = 0;
            goal = NONE;
            meetState(start, 0);
            for (int head = 0; head < size && head < found.length; head++) {
                if (ends(wood, found[head])) {
                    goal = head;
                    return;
                }
                for (int wind = 0; wind < WINDS; wind++) {
                    meetState(next(wood, found[head], wind), head * WINDS + wind);
                }
            }
        }

        private void meetState(int state, int link) {
            if (state < 0 || state >= stamps.length || stamps[state] == round || size >= found.length) {
                return;
            }
            stamps[state] = round;
            found[size] = state;
            links[size] = link;
            size++;
        }

        /** How many WINDS lead to a found state; each link goes to a lower index. */
        final int lengthTo(int index) {
            int steps = 0;
            int i = index;
            for (int n = 0; n < links.length && i > 0 && i < links.length; n++) {
                i = links[i] / WINDS;
                steps++;
            }
            return steps;
        }

        final int goalLength() {
            return goal == NONE ? NONE : lengthTo(goal);
        }

        final int goalWind(int which) {
            int length = goalLength();
            if (which < 0 || which >= length) {
                return NONE;
            }
            int i = goal;
            for (int n = length - 1; n > which && i > 0 && i < links.length; n--) {
                i = links[i] / WINDS;
            }
            return i > 0 && i < links.length ? links[i] % WINDS : NONE;
        }
    }

    /** Searches the pairs of where a PUPIL is and what it THINKS. */
    private static final class Minds extends Search {
        static final int DOUBTING = 1;
        static final int ASTRAY = 2;
        static final int SURE = 3;

        private final Walker walker = new Walker();
        private int turn;
        private int aim;
        private int least;

        Minds() {
            super(MOST_PLACES * SETS);
        }

        void aimAt(int newTurn, int newAim, int newLeast) {
            turn = newTurn;
            aim = newAim;
            least = newLeast;
        }

        int next(Wood wood, int state, int wind) {
            walker.place(state / SETS, state % SETS, turn);
            walker.step(wood, wind);
            return walker.at * SETS + walker.thought;
        }

        boolean ends(Wood wood, int state) {
            walker.place(state / SETS, state % SETS, turn);
            switch (aim) {
                case DOUBTING:
                    return walker.doubt() >= least;
                case ASTRAY:
                    return walker.isAstray();
                case SURE:
                    return walker.isSure();
                default:
                    return false;
            }
        }
    }

    /** Searches what a SET becomes. Two PLACES side by side are a SET of two, or of one once they meet. */
    private static final class Sets extends Search {
        static final int SINGLE = 1;
        static final int UNLIKE = 2;

        private int aim;

        Sets() {
            super(SETS);
        }

        void seek(Wood wood, int set, int newAim) {
            aim = newAim;
            explore(wood, set);
        }

        int next(Wood wood, int state, int wind) {
            return wood.spread(state, wind);
        }

        boolean ends(Wood wood, int state) {
            switch (aim) {
                case SINGLE:
                    return Integer.bitCount(state) == 1;
                case UNLIKE:
                    return !showsOne(wood, state, 0);
                default:
                    return false;
            }
        }

        /** Whether a SET shows one mark alone, if the marks of some PLACES are taken away. */
        private static boolean showsOne(Wood wood, int set, int bare) {
            int shown = NONE;
            for (int p = 0; p < wood.places; p++) {
                if ((set >> p & 1) == 0) {
                    continue;
                }
                int mark = (bare >> p & 1) != 0 ? 0 : wood.sign(p);
                if (shown != NONE && shown != mark) {
                    return false;
                }
                shown = mark;
            }
            return true;
        }

        boolean allShowOne(Wood wood, int bare) {
            for (int i = 0; i < size && i < found.length; i++) {
                if (!showsOne(wood, found[i], bare)) {
                    return false;
                }
            }
            return true;
        }

        int leastGathered(Wood wood, int set) {
            seek(wood, set, SINGLE);
            int shortest = goalLength();
            if (shortest == NONE) {
                return NONE;
            }
            // When the first goal comes up, all that are as near have been met already.
            int least = MOST_PLACES;
            for (int i = 0; i < size && i < found.length; i++) {
                if (Integer.bitCount(found[i]) == 1 && lengthTo(i) == shortest) {
                    least = Math.min(least, Integer.numberOfTrailingZeros(found[i]));
                }
            }
            return least;
        }
    }

    /** The least depths of PLANS, found once and kept until the WOOD changes. */
    private static final class Plans {
        /** Of SETS whose PLACES have like marks; NONE: there is no PLAN. */
        private final int[] depths = new int[SETS];
        private final int[] nexts = new int[SETS * WINDS];
        /** Of each PLACE all those with its mark. */
        private final int[] peers = new int[MOST_PLACES];
        private int all;
        boolean ready;

        void prepare(Wood wood) {
            if (ready) {
                return;
            }
            ready = true;
            all = Math.min(wood.all(), SETS - 1);
            for (int p = 0; p < MOST_PLACES; p++) {
                peers[p] = wood.showing(all, wood.sign(p));
            }
            for (int set = 0; set <= all; set++) {
                depths[set] = Integer.bitCount(set) == 1 ? 0 : NONE;
                for (int wind = 0; wind < WINDS; wind++) {
                    nexts[set * WINDS + wind] = wood.spread(set, wind);
                }
            }
            boolean more = true;
            for (int depth = 1; depth <= SETS && more; depth++) {
                more = settle(depth);
            }
        }

        /** Finds the SETS of one depth, those of lower ones being found; false: there is none. */
        private boolean settle(int depth) {
            boolean some = false;
            for (int set = 1; set <= all && set < SETS; set++) {
                if (depths[set] == NONE && isEven(set) && windTo(set, depth) != NONE) {
                    depths[set] = depth;
                    some = true;
                }
            }
            return some;
        }

        /** Whether its PLACES have like marks. */
        private boolean isEven(int set) {
            int p = lowest(set);
            return p >= 0 && p < MOST_PLACES && (set & ~peers[p]) == 0;
        }

        /** The least WIND behind which a PLAN of less than a depth goes on. */
        private int windTo(int set, int depth) {
            if (set < 0 || set >= SETS) {
                return NONE;
            }
            for (int wind = 0; wind < WINDS; wind++) {
                int rest = deepest(nexts[set * WINDS + wind]);
                if (rest != NONE && rest < depth) {
                    return wind;
                }
            }
            return NONE;
        }

        /** The least depth from a SET by whatever mark is seen first. */
        int deepest(int set) {
            int greatest = 0;
            int rest = set & all;
            for (int p = 0; p < MOST_PLACES && rest != 0; p++) {
                if ((rest >> p & 1) == 0) {
                    continue;
                }
                int depth = depths[rest & peers[p] & (SETS - 1)];
                if (depth == NONE) {
                    return NONE;
                }
                greatest = Math.max(greatest, depth);
                rest &= ~peers[p];
            }
            return greatest;
        }

        int leastWind(int set) {
            if (set < 1 || set >= SETS || !isEven(set) || depths[set] < 1) {
                return NONE;
            }
            return windTo(set, depths[set]);
        }
    }

    /** Tries all orders of the LESSONS on a copy of the WOOD. */
    private static final class Courses {
        /** Above the number of orders of five LESSONS. */
        private static final int MOST_ORDERS = 200;

        private final Wood ground = new Wood();
        private final Walker taught = new Walker();
        private final int[] order = new int[MOST_LESSONS];
        /** The first order with the most DOUBT. */
        final int[] worst = new int[MOST_LESSONS];
        int greatest;
        int least;

        void tryAll(Wood wood, Walker start, Rows rows, int slot) {
            int n = Math.min(wood.lessons, MOST_LESSONS);
            for (int i = 0; i < MOST_LESSONS; i++) {
                order[i] = i;
            }
            greatest = NONE;
            least = MOST_PLACES;
            boolean more = true;
            for (int k = 0; k < MOST_ORDERS && more; k++) {
                int doubt = tryOrder(wood, start, rows, slot);
                if (doubt > greatest) {
                    greatest = doubt;
                    System.arraycopy(order, 0, worst, 0, worst.length);
                }
                least = Math.min(least, doubt);
                more = nextOrder(n);
            }
        }

        private int tryOrder(Wood wood, Walker start, Rows rows, int slot) {
            ground.copyFrom(wood);
            taught.place(start.at, start.thought, start.turn);
            for (int i = 0; i < ground.lessons && i < MOST_LESSONS; i++) {
                teach(order[i]);
                for (int j = 0; j < rows.size(slot) && j < MOST_NUMBERS; j++) {
                    taught.step(ground, rows.small(slot, j));
                }
            }
            return taught.doubt();
        }

        private void teach(int which) {
            if (which < 0 || which >= MOST_LESSONS) {
                return;
            }
            int number = ground.lessonNumbers[which];
            switch (ground.lessonKinds[which]) {
                case Wood.BARE:
                    ground.setSign(number, 0);
                    break;
                case Wood.LIE:
                    taught.turn = (taught.turn + number) % WINDS;
                    break;
                default:
                    ground.setWay(number, ground.lessonWinds[which], number);
                    break;
            }
        }

        /** Makes the first n of the order the next greater row; false: it was the greatest. */
        private boolean nextOrder(int n) {
            int i = n - 2;
            while (i >= 0 && order[i] > order[i + 1]) {
                i--;
            }
            if (i < 0) {
                return false;
            }
            int j = n - 1;
            while (j > i && order[j] < order[i]) {
                j--;
            }
            swap(i, j);
            for (int low = i + 1, high = n - 1; low < high; low++, high--) {
                swap(low, high);
            }
            return true;
        }

        private void swap(int i, int j) {
            if (i < 0 || j < 0 || i >= MOST_LESSONS || j >= MOST_LESSONS) {
                return;
            }
            int kept = order[i];
            order[i] = order[j];
            order[j] = kept;
        }
    }

    /** Ways between PLACES, and chances in FOG. */
    private static final class Travel {
        private static final int FAR = 1000000000;

        private final int[] costs = new int[MOST_PLACES];
        private final int[] chances = new int[MOST_PLACES];
        private final int[] later = new int[MOST_PLACES];

        /** The least of steps and, for each PLACE without a mark that one comes to, darkness; or NONE. */
        int cheapest(Wood wood, int from, int to, int darkness) {
            if (!wood.hasPlace(from) || !wood.hasPlace(to)) {
                return NONE;
            }
            Arrays.fill(costs, FAR);
            costs[from] = 0;
            // No best way comes to a PLACE twice, so as many rounds as PLACES settle all.
            for (int round = 0; round < MOST_PLACES; round++) {
                for (int p = 0; p < wood.places && p < MOST_PLACES; p++) {
                    relax(wood, p, darkness);
                }
            }
            return costs[to] == FAR ? NONE : costs[to];
        }

        private void relax(Wood wood, int place, int darkness) {
            if (costs[place] == FAR) {
                return;
            }
            for (int wind = 0; wind < WINDS; wind++) {
                int to = wood.after(place, wind);
                if (wood.hasPlace(to)) {
                    int step = 1 + (wood.sign(to) == 0 ? darkness : 0);
                    costs[to] = Math.min(costs[to], costs[place] + step);
                }
            }
        }

        /** Counts the WALKS of n steps by where they end. */
        void drift(Wood wood, int from, int n) {
            Arrays.fill(chances, 0);
            if (wood.hasPlace(from)) {
                chances[from] = 1;
            }
            for (int i = 0; i < n; i++) {
                Arrays.fill(later, 0);
                for (int p = 0; p < wood.places && p < MOST_PLACES; p++) {
                    for (int wind = 0; wind < WINDS; wind++) {
                        int to = wood.after(p, wind);
                        if (wood.hasPlace(to)) {
                            later[to] += chances[p];
                        }
                    }
                }
                System.arraycopy(later, 0, chances, 0, chances.length);
            }
        }

        int chance(int place) {
            return place >= 0 && place < MOST_PLACES ? chances[place] : 0;
        }
    }

    /** The SLOTS. */
    private static final class Rows {
        private final long[] numbers = new long[SLOTS * MOST_NUMBERS];
        private final int[] widths = new int[SLOTS];
        /** NONE: the SLOT has nothing. */
        private final int[] sizes = new int[SLOTS];

        Rows() {
            Arrays.fill(sizes, NONE);
        }

        void make(int slot, int width, int n) {
            if (!isSlot(slot) || n < 0 || n > MOST_NUMBERS) {
                return;
            }
            int start = slot * MOST_NUMBERS;
            Arrays.fill(numbers, start, start + MOST_NUMBERS, 0L);
            widths[slot] = width;
            sizes[slot] = n;
        }

        boolean has(int slot) {
            return isSlot(slot) && sizes[slot] != NONE;
        }

        int size(int slot) {
            return has(slot) ? sizes[slot] : 0;
        }

        int width(int slot) {
            return isSlot(slot) ? widths[slot] : NONE;
        }

        int kept() {
            int out = 0;
            for (int slot = 0; slot < SLOTS; slot++) {
                out += has(slot) ? 1 : 0;
            }
            return out;
        }

        void put(int slot, int i, long v) {
            if (i >= 0 && i < size(slot)) {
                numbers[slot * MOST_NUMBERS + i] = cut(v, width(slot));
            }
        }

        private static long cut(long v, int width) {
            switch (width) {
                case 0:
                    return (byte) v;
                case 1:
                    return (short) v;
                case 2:
                    return (int) v;
                default:
                    return v;
            }
        }

        /** Whether number i is 0 or above and below a bound. */
        boolean isWithin(int slot, int i, int bound) {
            if (i < 0 || i >= size(slot)) {
                return false;
            }
            long v = numbers[slot * MOST_NUMBERS + i];
            return v >= 0 && v < bound;
        }

        /** Number i, of which isWithin() has told that it is small. */
        int small(int slot, int i) {
            return i >= 0 && i < size(slot) ? (int) numbers[slot * MOST_NUMBERS + i] : 0;
        }

        boolean covers(int slot, int i, int n) {
            return i >= 0 && n >= 0 && i <= size(slot) && n <= size(slot) - i;
        }

        void move(int slot, int i, int to, int k, int n) {
            if (covers(slot, i, n) && covers(to, k, n) && isSlot(slot) && isSlot(to)) {
                System.arraycopy(numbers, slot * MOST_NUMBERS + i, numbers, to * MOST_NUMBERS + k, n);
            }
        }
    }
}
