import java.util.function.IntBinaryOperator;

/** The boundary cases of what can be asked of the WOOD, and made otherwise in it: promises 30 to 58, V to VIII. */
public final class BoundaryWoodTest {
    private BoundaryWoodTest() {
    }

    private static void due(String call, long got, long want) {
        Support.due(call, got, want);
    }

    public static void main(String[] args) {
        plan();
        firstWind();
        hardest();
        alike();
        kinds();
        tells();
        bare();
        gather();
        gatherEachSet();
        searchesLeaveNoTrace();
        meet();
        meetLate();
        readAsked();
        readOfNoneAndSixty();
        ask();
        Edges.walkAsked("48 course", LostWood::course);
        Edges.walkAsked("49 lesson", (x, slot, pupil) -> x.lesson(slot, pupil, 0));
        Edges.walkAsked("50 spoilt", LostWood::spoilt);
        courseOfNoneAndFive();
        courseRound();
        courseOrders();
        courseShut();
        courseOfAllOrders();
        ways();
        fog();
        likely();
        can();
        lead();
        marks();
        askedAlone();
        Support.finish("BoundaryWoodTest");
    }

    private static void ofSet(String name, java.util.function.BiFunction<LostWood, Integer, Integer> call) {
        LostWood x = Edges.ten();
        Edges.bounds(name + " SET", 1, 1023, -2, v -> call.apply(x, v));
        due(name + " no SET: none", call.apply(x, 0), -2);
        due(name + " no SET: one of it none", call.apply(x, 1024 | 1), -2);
        LostWood y = Support.wood(Edges.TWO);
        Edges.bounds(name + " SET of two", 1, 3, -2, v -> call.apply(y, v));
        due(name + " no WOOD", call.apply(new LostWood(), 1), -2);
    }

    private static void ofTwo(String name, java.util.function.Function<LostWood, IntBinaryOperator> call) {
        IntBinaryOperator ten = call.apply(Edges.ten());
        Edges.bounds(name + " PLACE", 0, 9, -2, v -> ten.applyAsInt(v, 0));
        Edges.bounds(name + " other", 0, 9, -2, v -> ten.applyAsInt(0, v));
        due(name + " both none", ten.applyAsInt(10, 10), -2);
        due(name + " both none", ten.applyAsInt(-1, -1), -2);
        IntBinaryOperator two = call.apply(Support.wood(Edges.TWO));
        Edges.bounds(name + " PLACE of two", 0, 1, -2, v -> two.applyAsInt(v, 1));
        Edges.bounds(name + " other of two", 0, 1, -2, v -> two.applyAsInt(1, v));
        due(name + " no WOOD", call.apply(new LostWood()).applyAsInt(0, 0), -2);
    }

    private static void plan() {
        ofSet("30", LostWood::plan);
        LostWood x = Edges.ten();
        for (int p = 0; p < 10; p++) {
            due("30 alone", x.plan(1 << p), 0);
            due("31 none is needed", x.first(1 << p), -1);
        }
        due("30 told by the first mark", x.plan(0b1000000001), 0);
        due("30 told by the first mark", x.plan(0b1000000011), 0);
        due("30 one STEP", x.plan(0b0000000110), 1);
        due("30 the worst mark", x.plan(0b0000000111), 1);
        due("30 from the middle", x.plan(0b0000110000), 4);
        due("30 all", x.plan(1023), 7);
        x.marks(0, 0);
        due("30 with the first PLACE", x.plan(3), 1);
        due("31 with the first PLACE", x.first(3), 3);
        x.marks(9, 0);
        due("30 with the last PLACE", x.plan(3 << 8), 1);
        due("30 with all PLACES", x.plan(1023), 9);
        due("31 with all PLACES", x.first(1023), 1);
        LostWood two = Support.wood(Edges.TWO);
        due("30 alone", two.plan(1), 0);
        due("30 there is none", two.plan(3), -1);
        LostWood y = Support.wood("wood places 4;way 0 e to 1;way 1 e to 0;mark 2 1;mark 3 2;");
        due("30 of one mark there is none", y.plan(0b1111), -1);
        due("30 of one mark there is none", y.plan(0b0111), -1);
        due("30 of each there is one", y.plan(0b1101), 0);
        // Two become one: then it KNOWS, though it saw nothing.
        LostWood z = Support.wood("wood places 2;way 0 w to 1;");
        due("30 two become one", z.plan(3), 1);
        due("31 two become one", z.first(3), 3);
    }

    private static void firstWind() {
        ofSet("31", LostWood::first);
        LostWood x = Edges.ten();
        due("31 west alone", x.first(0b0000000110), 3);
        due("31 east alone", x.first(0b0110000000), 1);
        due("31 the least of several", x.first(0b0000110000), 1);
        due("31 unlike marks", x.first(0b0000000011), -1);
        due("31 unlike marks", x.first(0b1000000001), -1);
        due("31 unlike marks", x.first(0b0000000111), -1);
        due("31 unlike marks", x.first(1023), -1);
        due("31 all of one mark", x.first(0b0111111110), 1);
        LostWood two = Support.wood(Edges.TWO);
        due("31 there is none", two.first(3), -1);
        LostWood y = Support.wood("wood places 3;way 1 n to 0;way 1 e to 0;way 1 s to 0;way 1 w to 0;mark 0 1;");
        due("31 the least of four", y.first(0b110), 0);
        due("57 lead", y.lead(1, 0, 1), 0);
        due("31 the least of three", y.first(0b110), 1);
        due("57 lead", y.lead(1, 1, 1), 0);
        due("31 the least of two", y.first(0b110), 2);
        due("57 lead", y.lead(1, 2, 1), 0);
        due("31 the only one", y.first(0b110), 3);
        due("57 lead", y.lead(1, 3, 1), 0);
        due("31 there is none", y.first(0b110), -1);
        due("30 there is none", y.plan(0b110), -1);
    }

    private static void hardest() {
        due("32 of ten", Edges.ten().hardest(), 4);
        due("32 there is none", Support.wood(Edges.TWO).hardest(), -1);
        due("32 no WOOD", new LostWood().hardest(), -2);
        due("32 told by the first mark", Support.wood(Edges.TWO + "mark 0 1;").hardest(), 0);
        due("32 those without are left aside", Support.wood("wood places 3;mark 0 1;").hardest(), 0);
        due("32 one STEP", Support.wood(Edges.TWO + "way 1 s to 0;").hardest(), 1);
        // Of three there is no PLAN, of two there is.
        LostWood x = Support.wood("wood places 4;way 0 e to 1;way 1 e to 0;mark 2 1;mark 3 1;way 3 n to 2;");
        due("30 of all there is none", x.plan(15), -1);
        due("32 of two there is", x.hardest(), 1);
    }

    private static void alike() {
        ofTwo("33", x -> x::alike);
        LostWood two = Support.wood(Edges.TWO);
        due("33 two", two.alike(0, 1), 1);
        due("33 itself", two.alike(1, 1), 1);
        two.marks(1, 9);
        due("33 by no WALK", two.alike(0, 1), 0);
        due("33 by no WALK", two.alike(1, 0), 0);
        due("33 itself", two.alike(1, 1), 1);
        LostWood x = Edges.ten();
        for (int p = 0; p < 10; p++) {
            for (int q = 0; q < 10; q++) {
                due("33 each its own", x.alike(p, q), p == q ? 1 : 0);
            }
        }
        // Only behind nine STEPS a mark is seen.
        LostWood y = Edges.ten();
        y.marks(0, 0);
        due("33 by a long WALK", y.alike(0, 1), 0);
        due("35 by a long WALK", y.tells(0, 1), 8);
        y.marks(9, 0);
        due("33 no mark at all", y.alike(0, 9), 1);
        due("35 no mark at all", y.tells(0, 9), -1);
    }

    private static void kinds() {
        due("34 no WOOD", new LostWood().kinds(), -2);
        due("34 one", Support.wood(Edges.TWO).kinds(), 1);
        due("34 one of ten", Support.wood("wood places 10;").kinds(), 1);
        due("34 ten", Edges.ten().kinds(), 10);
        StringBuilder text = new StringBuilder("wood places 10;");
        for (int p = 0; p < 10; p++) {
            text.append("mark ").append(p).append(' ').append(p).append(';');
        }
        due("34 ten by their marks", Support.wood(text.toString()).kinds(), 10);
        due("34 two", Support.wood("wood places 10;mark 9 9;").kinds(), 2);
        due("34 two", Support.wood("wood places 10;mark 0 9;").kinds(), 2);
    }

    private static void tells() {
        ofTwo("35", x -> x::tells);
        ofTwo("36", x -> (place, other) -> x.told(place, other, 0));
        LostWood fresh = Edges.ten();
        due("36 asked alone", fresh.told(4, 5, 3), 1);
        due("36 asked alone", fresh.told(1, 2, 0), 3);
        LostWood x = Edges.ten();
        due("35 at once", x.tells(0, 1), 0);
        Edges.winds("36 no STEPS", v -> x.told(0, 1, v));
        due("35 at once", x.tells(9, 0), 0);
        due("35 ALIKE: itself", x.tells(9, 9), -1);
        Edges.winds("36 ALIKE", v -> x.told(9, 9, v));
        due("35 one", x.tells(1, 8), 1);
        Edges.winds("36 the least of several", v -> x.told(1, 8, v), 1);
        due("35 four", x.tells(5, 4), 4);
        Edges.winds("36 the least row", v -> x.told(4, 5, v), 1, 1, 1, 1);
        due("36 none such PLACE, i none", x.told(0, 10, -1), -2);
        due("36 none such PLACE, i none", x.told(-1, 0, 0), -2);
    }

    private static void bare() {
        ofTwo("37", x -> x::bares);
        ofTwo("38", x -> x::bared);
        LostWood two = Support.wood(Edges.TWO);
        due("37 ALIKE already", two.bares(0, 1), 0);
        due("38 ALIKE already", two.bared(0, 1), 0);
        two.marks(1, 9);
        due("37 one", two.bares(0, 1), 1);
        due("38 one", two.bared(1, 0), 0b10);
        two.marks(0, 9);
        due("37 ALIKE by like marks", two.bares(0, 1), 0);
        two.marks(0, 1);
        due("37 both", two.bares(0, 1), 2);
        due("38 both", two.bared(0, 1), 0b11);
        due("37 itself", two.bares(1, 1), 0);
        // A ring with unlike neighbours: of two neighbours to be ALIKE all marks must go.
        StringBuilder text = new StringBuilder("wood places 10;");
        for (int p = 0; p < 10; p++) {
            text.append("way ").append(p).append(" n to ").append((p + 1) % 10).append(";mark ").append(p).append(' ')
                    .append(1 + p % 9).append(';');
        }
        text.append("mark 9 2;");
        LostWood ring = Support.wood(text.toString());
        due("37 all ten", ring.bares(0, 1), 10);
        due("38 all ten", ring.bared(9, 0), 1023);
        due("37 itself", ring.bares(9, 9), 0);
        due("7 they are still there", ring.count(2), 10);
        LostWood x = Edges.ten();
        due("37 both ends", x.bares(4, 5), 2);
        due("38 both ends", x.bared(4, 5), 513);
        // Marks that no WALK of the two comes to stay.
        LostWood y = Support.wood("wood places 5;way 0 n to 2;way 1 n to 3;mark 2 1;mark 3 2;mark 4 3;");
        due("37 no more than there must", y.bares(0, 1), 2);
        due("38 no more than there must", y.bared(0, 1), 0b01100);
        // By north they come to one PLACE; by east twice, to one with a mark and one without.
        LostWood z = Support.wood("wood places 6;way 0 n to 2;way 1 n to 2;way 0 e to 3;way 1 e to 4;way 4 e to 5;mark 5 7;mark 2 3;");
        due("37 by another WALK", z.bares(0, 1), 1);
        due("38 by another WALK", z.bared(0, 1), 1 << 5);
    }

    private static void gather() {
        ofSet("39", LostWood::gather);
        ofSet("40", (x, set) -> x.gathers(set, 0));
        ofSet("41", LostWood::roundabout);
        LostWood fresh = Edges.ten();
        due("40 asked alone", fresh.gathers(1023, 8), 1);
        due("40 asked alone", fresh.gathers(3, 0), 3);
        LostWood x = Edges.ten();
        for (int p = 0; p < 10; p++) {
            due("39 one PLACE already", x.gather(1 << p), 0);
            due("41 one PLACE already", x.roundabout(1 << p), p);
        }
        Edges.winds("40 no STEPS", v -> x.gathers(512, v));
        due("39 all", x.gather(1023), 9);
        Edges.winds("40 the least row", v -> x.gathers(1023, v), 1, 1, 1, 1, 1, 1, 1, 1, 1);
        due("41 the least PLACE, by another row", x.roundabout(1023), 0);
        due("39 at the west", x.gather(3), 1);
        Edges.winds("40 at the west", v -> x.gathers(3, v), 3);
        due("41 at the west", x.roundabout(3), 0);
        due("41 at the east", x.roundabout(0b11 << 8), 9);
        due("41 nearer to the east", x.roundabout(0b11 << 5), 9);
        due("41 as near", x.roundabout(0b11 << 4), 0);
        due("40 no SET, i none", x.gathers(0, -1), -2);
        due("40 no SET, i none", x.gathers(1024, 0), -2);
        LostWood two = Support.wood(Edges.TWO);
        due("39 there is none", two.gather(3), -1);
        Edges.winds("40 there is none", v -> two.gathers(3, v));
        due("41 there is none", two.roundabout(3), -1);
    }

    /** In a row of ten all are driven against one end or the other, whichever is nearer. */
    private static void gatherEachSet() {
        LostWood x = Edges.ten();
        for (int set = 1023; set >= 1; set--) {
            if (set % 200 == 0) {
                x = Edges.ten();
            }
            int west = Integer.numberOfTrailingZeros(set);
            int east = 31 - Integer.numberOfLeadingZeros(set);
            int steps = west == east ? 0 : Math.min(east, 9 - west);
            due("41 SET " + set, x.roundabout(set), west == east ? west : east <= 9 - west ? 0 : 9);
            due("39 SET " + set, x.gather(set), steps);
        }
    }

    private static void searchesLeaveNoTrace() {
        LostWood x = Support.wood("wood places 3;way 0 n to 1;mark 2 1;");
        due("39 there is none", x.gather(7), -1);
        due("37 itself, behind it", x.bares(2, 2), 0);
        due("39 there is none", x.gather(7), -1);
        due("38 itself, behind it", x.bared(2, 2), 0);
        LostWood y = Edges.ten();
        y.gather(1023);
        due("37 itself, behind a long one", y.bares(9, 9), 0);
        y.gather(1023);
        due("33 itself, behind a long one", y.alike(9, 9), 1);
        y.marks(0, 0);
        y.gather(1023);
        due("38 one mark, behind a long one", y.bared(1, 2), 512);
        // From 0 and 1 four SETS come up, the last of them one PLACE; from 8 and 9 three.
        LostWood z = Support.wood("wood places 10;way 0 n to 2;way 1 n to 3;way 0 e to 4;way 1 e to 5;way 0 s to 6;way 1 s to 7;"
                + "way 1 w to 0;way 8 n to 9;way 8 e to 7;way 9 e to 8;way 8 s to 6;way 9 s to 7;");
        due("41 the last of four", z.roundabout(0b11), 0);
        due("41 the first of three, behind it", z.roundabout(0b11 << 8), 9);
        due("40 the last of four", z.gathers(0b11, 0), 3);
        due("40 the first of three", z.gathers(0b11 << 8, 0), 0);
    }

    private static void meet() {
        ofTwo("42", x -> x::meet);
        ofTwo("43", x -> x::met);
        LostWood x = Edges.ten();
        for (int p = 0; p < 10; p++) {
            due("42 in one PLACE already", x.meet(p, p), 0);
            due("43 in one PLACE already", x.met(p, p), p);
        }
        due("42 neighbours", x.meet(0, 1), 1);
        due("43 the least PLACE", x.met(0, 1), 0);
        due("43 the least PLACE", x.met(1, 0), 0);
        due("42 from end to end", x.meet(0, 9), 5);
        due("43 from end to end", x.met(0, 9), 4);
        due("43 from end to end", x.met(9, 0), 4);
        LostWood two = Support.wood(Edges.TWO);
        due("42 never", two.meet(0, 1), -1);
        due("43 never", two.met(0, 1), -1);
        two.lead(1, 3, 0);
        due("42 one comes, one stays", two.meet(0, 1), 1);
        due("43 one comes, one stays", two.met(1, 0), 0);
        // A ring of three in which nobody can wait.
        LostWood ring = Support.wood("wood places 3;way 0 n to 1;way 0 e to 1;way 0 s to 1;way 0 w to 1;"
                + "way 1 n to 2;way 1 e to 2;way 1 s to 2;way 1 w to 2;way 2 n to 0;way 2 e to 0;way 2 s to 0;way 2 w to 0;");
        due("42 never in a ring", ring.meet(0, 1), -1);
        due("43 never in a ring", ring.met(0, 1), -1);
        ring.lead(2, 3, 1);
        due("42 by a short cut", ring.meet(0, 2), 1);
        due("43 by a short cut", ring.met(0, 2), 1);
        // From 0: 1, 2, then 0 or 1. From 1: 2, then 0 or 1, then 1 or 2.
        due("42 later", ring.meet(0, 1), 3);
        due("43 later", ring.met(0, 1), 1);
    }

    /** A ring of ten in which nobody can wait, with one short cut: it takes long till one has come up with another. */
    private static void meetLate() {
        StringBuilder text = new StringBuilder("wood places 10;");
        for (int p = 0; p < 10; p++) {
            for (int wind = 0; wind < 4; wind++) {
                int to = p == 9 && wind == 3 ? 1 : (p + 1) % 10;
                text.append("way ").append(p).append(' ').append("nesw".charAt(wind)).append(" to ").append(to).append(';');
            }
        }
        LostWood x = Support.wood(text.toString());
        int latest = 0;
        for (int p = 0; p < 10; p++) {
            for (int q = 0; q < 10; q++) {
                int[] want = meetByPairs(p, q);
                due("42 late, " + p + " and " + q, x.meet(p, q), want[0]);
                due("43 late, " + p + " and " + q, x.met(p, q), want[1]);
                latest = Math.max(latest, want[0]);
            }
        }
        due("42 how late", latest, 41);
    }

    /** All pairs that two in that ring can be in, step by step. */
    private static int[] meetByPairs(int place, int other) {
        java.util.Set<Integer> pairs = java.util.Set.of(place * 10 + other);
        for (int n = 0; n < 200; n++) {
            int least = 10;
            java.util.Set<Integer> next = new java.util.HashSet<>();
            for (int pair : pairs) {
                int p = pair / 10;
                int q = pair % 10;
                if (p == q) {
                    least = Math.min(least, p);
                }
                for (int cut = 0; cut < 4; cut++) {
                    int a = p == 9 && cut % 2 == 1 ? 1 : (p + 1) % 10;
                    int b = q == 9 && cut / 2 == 1 ? 1 : (q + 1) % 10;
                    next.add(a * 10 + b);
                }
            }
            if (least < 10) {
                return new int[] {n, least};
            }
            pairs = next;
        }
        return new int[] {-1, -1};
    }

    private interface OfReading {
        int ask(LostWood x, int slot);
    }

    private static void readAsked() {
        readAsked("44 read", LostWood::read);
        readAsked("45 began", LostWood::began);
        readAsked("46 ask", LostWood::ask);
        readAsked("47 leaves", LostWood::leaves);
    }

    private static void readAsked(String name, OfReading call) {
        LostWood no = new LostWood();
        due(name + " no WOOD, asked ahead of nothing", call.ask(no, 0), -2);
        no.row(0, 0, 2);
        due(name + " no WOOD", call.ask(no, 0), -2);
        LostWood x = Edges.ten();
        for (int slot = 0; slot < 4; slot++) {
            due(name + " nothing", call.ask(x, slot), -6);
        }
        Edges.refusedBelow(name + " SLOT, asked ahead of nothing", 0, -2, v -> call.ask(x, v));
        Edges.refusedAbove(name + " SLOT, asked ahead of nothing", 3, -2, v -> call.ask(x, v));
        for (int n = 0; n <= 60; n++) {
            x.row(n % 4, n / 4 % 4, n);
            int got = call.ask(x, n % 4);
            due(name + " two each: " + n, n % 2 == 0 ? (got >= 0 ? 0 : 1) : got, n % 2 == 0 ? 0 : -2);
        }
        for (int slot = 0; slot < 4; slot++) {
            x.row(slot, slot, 60);
        }
        Edges.bounds(name + " SLOT", 0, 3, -2, v -> call.ask(x, v));
        for (int slot = 0; slot < 4; slot++) {
            for (int i : new int[] {0, 1, 58, 59}) {
                int last = i % 2 == 0 ? 4 : 9;
                for (long number : new long[] {last + 1, -1, 127, Long.MAX_VALUE}) {
                    x.write(slot, i, number);
                    due(name + " a number is none", call.ask(x, slot), -2);
                }
                x.write(slot, i, last);
                due(name + " the last that is one", call.ask(x, slot) < 0 ? 1 : 0, 0);
                x.write(slot, i, 0);
            }
        }
        x.write(3, 0, 1L << 32);
        due(name + " none of 8 bytes", call.ask(x, 3), -2);
        x.write(3, 0, 0);
        x.write(3, 59, Long.MIN_VALUE);
        due(name + " none of 8 bytes", call.ask(x, 3), -2);
        x.row(3, 0, 1);
        x.write(3, 0, 9);
        due(name + " a number is none, not two each", call.ask(x, 3), -2);
    }

    private static void readOfNoneAndSixty() {
        LostWood x = Edges.ten();
        x.row(0, 0, 0);
        due("44 nothing was seen: any", x.read(0), 1023);
        due("45 nothing was seen: any", x.began(0), 1023);
        x.row(0, 0, 60);
        due("44 thirty", x.read(0), 0b0111111110);
        due("45 thirty", x.began(0), 0b0111111110);
        x.write(0, 58, 1);
        x.write(0, 59, 9);
        due("44 the last of thirty", x.read(0), 1 << 9);
        due("45 the last of thirty", x.began(0), 1 << 8);
        Support.fill(x, 1, 4, 9);
        due("44 stayed", x.read(1), 1 << 9);
        due("45 stayed", x.began(1), 1 << 9);
        Support.fill(x, 1, 1, 9);
        due("44 went east", x.read(1), 1 << 9);
        due("45 went east, or was there", x.began(1), 0b11 << 8);
        Support.fill(x, 1, 3, 1);
        due("44 went west", x.read(1), 1);
        due("45 went west, or was there", x.began(1), 0b11);
        Support.fill(x, 1, 4, 8);
        due("44 none", x.read(1), 0);
        due("45 none", x.began(1), 0);
        Support.fill(x, 1, 4, 8, 4, 0);
        due("44 none for ever", x.read(1), 0);
        due("45 none for ever", x.began(1), 0);
    }

    private static void ask() {
        LostWood x = Edges.ten();
        x.row(0, 0, 0);
        due("46 all as bad: the least", x.ask(0), 0);
        due("47 all as bad", x.leaves(0), 8);
        Support.fill(x, 1, 4, 0);
        due("46 east and west are better", x.ask(1), 1);
        due("47 east and west are better", x.leaves(1), 7);
        Support.fill(x, 1, 4, 9);
        due("46 one PLACE: the least", x.ask(1), 0);
        due("47 one PLACE", x.leaves(1), 1);
        Support.fill(x, 1, 4, 8);
        due("46 there are none: the least", x.ask(1), 0);
        due("47 there are none", x.leaves(1), 0);
        LostWood y = Support.wood("wood places 3;mark 2 1;way 0 w to 2;");
        Support.fill(y, 0, 4, 0);
        due("46 the last WIND", y.ask(0), 3);
        due("47 the last WIND", y.leaves(0), 1);
        // Two that become one are one PLACE that is left.
        LostWood z = Support.wood("wood places 2;way 0 s to 1;");
        z.row(0, 0, 0);
        due("46 become one", z.ask(0), 2);
        due("47 become one", z.leaves(0), 1);
    }

    private static void courseOfNoneAndFive() {
        LostWood none = Support.wood("wood places 3;way 0 e to 1;pupil in 0 lies 0 thinks 0 2;");
        Support.fill(none, 0, 1);
        due("48 no LESSONS: as now", none.course(0, 0), 2);
        due("50 no LESSONS: as now", none.spoilt(0, 0), 2);
        Edges.winds("49 no LESSONS", v -> none.lesson(0, 0, v));
        LostWood one = Support.wood("wood places 3;mark 1 1;way 0 e to 1;pupil in 0 lies 0 thinks 0 2;lesson bare 1;");
        Support.fill(one, 0, 1);
        due("48 one", one.course(0, 0), 2);
        due("50 one", one.spoilt(0, 0), 2);
        Edges.winds("49 one", v -> one.lesson(0, 0, v), 0);
        one.row(0, 0, 0);
        due("48 a WALK of no STEPS", one.course(0, 0), 2);
        Edges.winds("49 a WALK of no STEPS", v -> one.lesson(0, 0, v), 0);

        LostWood five = Edges.ten();
        five.row(0, 0, 0);
        for (int p = 0; p < 4; p++) {
            int pupil = p;
            due("48 no STEPS: as now", five.course(0, p), new int[] {1, 2, 10, 1}[p]);
            due("50 no STEPS: as now", five.spoilt(0, p), new int[] {1, 2, 10, 1}[p]);
            Edges.winds("49 the least row of five", v -> five.lesson(0, pupil, v), 0, 1, 2, 3, 4);
        }
        due("49 no PUPIL, i none", five.lesson(0, 4, -1), -2);
        due("49 no SLOT, i none", five.lesson(4, 0, 5), -2);
        due("49 nothing, i none", five.lesson(1, 0, 5), -6);
        five.row(1, 0, 60);
        due("48 sixty behind each of five", five.course(1, 0) >= 1 ? 1 : 0, 1);
    }

    /** lies so much more, modulo 4. By the WIND told as north one comes to a PLACE that 1, 2, 3 or 4 PLACES look like. */
    private static void courseRound() {
        String star = "wood places 10;way 0 n to 1;way 0 e to 2;way 0 s to 3;way 0 w to 4;mark 1 1;mark 2 2;mark 5 2;mark 3 3;"
                + "mark 6 3;mark 7 3;mark 4 4;mark 8 4;mark 9 4;mark 0 4;";
        for (int lies = 0; lies < 4; lies++) {
            for (int more = 1; more < 4; more++) {
                LostWood x = Support.wood(star + "pupil in 0 lies " + lies + " thinks 0;lesson lies " + more + ";");
                x.row(0, 0, 1);
                int want = 1 + (lies + more) % 4;
                due("48 lies " + lies + " and " + more, x.course(0, 0), want);
                due("50 lies " + lies + " and " + more, x.spoilt(0, 0), want);
                due("VII lies as ahead of it", x.pupil(0, 0), lies);
            }
        }
    }

    private static void courseOrders() {
        // bare first makes it doubt, shut first keeps it: the order tells.
        String text = "wood places 3;way 0 e to 1;mark 1 1;pupil in 0 lies 0 thinks 0 2;";
        LostWood x = Support.wood(text + "lesson lies 1;lesson bare 1;");
        Support.fill(x, 0, 1);
        due("48 the most", x.course(0, 0), 2);
        Edges.winds("49 not the least order", v -> x.lesson(0, 0, v), 1, 0);
        due("50 the least", x.spoilt(0, 0), 1);
        LostWood y = Support.wood(text + "lesson bare 1;lesson lies 1;");
        Support.fill(y, 0, 1);
        due("48 the most", y.course(0, 0), 2);
        Edges.winds("49 the least order", v -> y.lesson(0, 0, v), 0, 1);
        due("50 the least", y.spoilt(0, 0), 1);
        // The same LESSON twice: of the orders with one of these first the least is told.
        LostWood z = Support.wood(text + "lesson bare 1;lesson bare 1;lesson shut 2 n;");
        Support.fill(z, 0, 1);
        Edges.winds("49 the least of several", v -> z.lesson(0, 0, v), 0, 1, 2);
        due("48 one of them first", z.course(0, 0), 2);
        due("50 the other one first", z.spoilt(0, 0), 1);
    }

    /** shut: the way by that WIND is none, those by others stay. */
    private static void courseShut() {
        for (int way = 0; way < 4; way++) {
            for (int shut = 0; shut < 4; shut++) {
                LostWood x = Support.wood("wood places 3;mark 1 1;way 0 " + "nesw".charAt(way) + " to 1;pupil in 0 lies 0 thinks 0 2;"
                        + "lesson shut 0 " + "nesw".charAt(shut) + ";");
                Support.fill(x, 0, way);
                due("48 shut", x.course(0, 0), way == shut ? 2 : 1);
                due("VII the way is there as ahead of it", x.leads(0, way), 1);
                x.image(0);
                x.back(0);
                due("50 shut, behind an image", x.spoilt(0, 0), way == shut ? 2 : 1);
            }
        }
    }

    /**
     * Of all 120 orders one alone has the most DOUBT: lies 2, lies 3, lies 1, bare 3, shut 2 e. However the five LINES
     * stand, it is the one that is told.
     */
    private static void courseOfAllOrders() {
        String wood = "wood places 6;way 0 s to 4;way 1 n to 4;way 1 e to 5;way 1 s to 2;mark 1 2;way 2 s to 1;mark 2 1;way 3 s to 0;"
                + "mark 3 1;way 4 n to 2;way 4 s to 3;mark 4 1;way 5 n to 1;way 5 s to 0;pupil in 2 lies 0 thinks 2 4;";
        String[] lessons = {"lesson lies 2;", "lesson lies 3;", "lesson lies 1;", "lesson bare 3;", "lesson shut 2 e;"};
        for (int code = 0; code < 3125; code++) {
            int[] stand = new int[5];
            int[] at = {-1, -1, -1, -1, -1};
            StringBuilder text = new StringBuilder(wood);
            int rest = code;
            for (int i = 0; i < 5; i++) {
                stand[i] = rest % 5;
                at[stand[i]] = i;
                text.append(lessons[stand[i]]);
                rest /= 5;
            }
            if (java.util.Arrays.stream(at).anyMatch(i -> i < 0)) {
                continue;
            }
            LostWood x = Support.wood(text.toString());
            x.row(0, 0, 1);
            due("50 the least, asked alone", x.spoilt(0, 0), 1);
            due("48 the most", x.course(0, 0), 3);
            Edges.winds("49 the only order", v -> x.lesson(0, 0, v), at);
        }
    }

    private static void ways() {
        ofTwo("51", x -> x::route);
        ofTwo("52", x -> x::dark);
        ofTwo("53", x -> x::detour);
        LostWood x = Edges.ten();
        for (int p = 0; p < 10; p++) {
            due("51 itself", x.route(p, p), 0);
            due("52 itself", x.dark(p, p), 0);
            due("53 itself", x.detour(p, p), 0);
        }
        due("51 from end to end", x.route(0, 9), 9);
        due("52 from end to end", x.dark(0, 9), 8);
        due("53 from end to end", x.detour(0, 9), 9);
        due("52 where one ends counts", x.dark(0, 1), 1);
        due("52 where one begins does not", x.dark(1, 0), 0);
        LostWood two = Support.wood(Edges.TWO);
        due("51 there is no way", two.route(0, 1), -1);
        due("52 there is no way", two.dark(0, 1), -1);
        due("53 there is no way", two.detour(0, 1), -1);
        two.lead(0, 2, 1);
        due("51 one way", two.route(0, 1), 1);
        due("51 not back", two.route(1, 0), -1);
        due("52 one way", two.dark(0, 1), 1);
        two.marks(1, 9);
        due("52 with a mark", two.dark(0, 1), 0);
        due("53 with a mark", two.detour(0, 1), 1);
        // Eight steps by marked PLACES against two by one that is dark.
        LostWood y = Support.wood("wood places 10;way 0 n to 1;way 1 n to 9;way 0 e to 2;way 2 e to 3;way 3 e to 4;way 4 e to 5;"
                + "way 5 e to 6;way 6 e to 7;way 7 e to 8;way 8 e to 9;mark 2 1;mark 3 1;mark 4 1;mark 5 1;mark 6 1;mark 7 1;"
                + "mark 8 1;mark 9 1;");
        due("51 the shortest", y.route(0, 9), 2);
        due("52 whatever its length", y.dark(0, 9), 0);
        due("53 whatever its length", y.detour(0, 9), 8);
        y.marks(4, 0);
        due("52 as few", y.dark(0, 9), 1);
        due("53 as few: the shorter", y.detour(0, 9), 2);
    }

    private static void fog() {
        ofTwo("54", x -> (from, to) -> x.fog(from, to, 1, 0));
        LostWood x = Edges.ten();
        Edges.bounds("54 n", 0, 15, -2, v -> x.fog(0, 0, v, 1));
        Edges.bounds("54 what", 0, 1, -2, v -> x.fog(0, 0, 15, v));
        due("54 no steps, it", x.fog(9, 9, 0, 0), 1);
        due("54 no steps, it", x.fog(9, 9, 0, 1), 1);
        due("54 no steps, another", x.fog(9, 8, 0, 0), 0);
        due("54 no steps, another: 0 / 1", x.fog(9, 8, 0, 1), 1);
        due("54 too far", x.fog(0, 9, 8, 0), 0);
        due("54 too far: 0 / 1", x.fog(0, 9, 8, 1), 1);
        due("54 just as far", x.fog(0, 9, 9, 0), 1);
        due("54 just as far", x.fog(0, 9, 9, 1), 262144);
        LostWood two = Support.wood(Edges.TWO);
        due("54 surely", two.fog(0, 0, 15, 0), 1);
        due("54 surely", two.fog(0, 0, 15, 1), 1);
        due("54 never", two.fog(0, 1, 15, 0), 0);
        due("54 never: 0 / 1", two.fog(0, 1, 15, 1), 1);
        two.lead(0, 0, 1);
        due("54 lowest terms", two.fog(0, 1, 1, 0), 1);
        due("54 lowest terms", two.fog(0, 1, 1, 1), 4);
        due("54 lowest terms", two.fog(0, 0, 15, 0), 14348907);
        due("54 lowest terms", two.fog(0, 0, 15, 1), 1 << 30);
        two.lead(0, 1, 1);
        due("54 lowest terms: a half", two.fog(0, 1, 1, 0), 1);
        due("54 lowest terms: a half", two.fog(0, 1, 1, 1), 2);
        due("54 lowest terms: 2 to the 15th", two.fog(0, 0, 15, 0), 1);
        due("54 lowest terms: 2 to the 15th", two.fog(0, 0, 15, 1), 32768);
        two.lead(0, 2, 1);
        two.lead(0, 3, 1);
        due("54 all lead there", two.fog(0, 1, 1, 0), 1);
        due("54 all lead there", two.fog(0, 1, 1, 1), 1);
        due("54 none stays", two.fog(0, 0, 1, 0), 0);
        due("54 none stays: 0 / 1", two.fog(0, 0, 1, 1), 1);
    }

    private static void likely() {
        LostWood x = Edges.ten();
        Edges.bounds("55 PLACE", 0, 9, -2, v -> x.likely(v, 0));
        Edges.bounds("55 n", 0, 15, -2, v -> x.likely(0, v));
        due("55 no WOOD", new LostWood().likely(0, 0), -2);
        due("55 no steps", x.likely(9, 0), 9);
        due("55 one", x.likely(9, 1), 9);
        LostWood two = Support.wood(Edges.TWO + "way 0 n to 1;way 0 e to 1;");
        due("55 the first of several", two.likely(0, 1), 0);
        due("55 at last", two.likely(0, 2), 1);
        due("55 fifteen", two.likely(0, 15), 1);
        Edges.bounds("55 PLACE of two", 0, 1, -2, v -> two.likely(v, 0));
    }

    private static void can() {
        LostWood x = Edges.ten();
        Edges.bounds("56 PLACE", 0, 9, -2, v -> x.can(v, 0));
        Edges.bounds("56 n", 0, 15, -2, v -> x.can(0, v));
        due("56 no WOOD", new LostWood().can(0, 0), -2);
        due("56 no steps", x.can(9, 0), 512);
        due("56 eight", x.can(0, 8), 511);
        due("56 nine", x.can(0, 9), 1023);
        due("56 fifteen", x.can(0, 15), 1023);
        LostWood two = Support.wood(Edges.TWO);
        due("56 stays", two.can(1, 15), 2);
        two.lead(1, 0, 0);
        due("56 one may stay", two.can(1, 1), 3);
        two.lead(1, 1, 0);
        two.lead(1, 2, 0);
        two.lead(1, 3, 0);
        due("56 none can stay", two.can(1, 1), 1);
        Edges.bounds("56 PLACE of two", 0, 1, -2, v -> two.can(v, 15));
    }

    private static void lead() {
        LostWood x = Edges.ten();
        Edges.bounds("57 PLACE", 0, 9, -2, v -> x.lead(v, 0, 0));
        Edges.bounds("57 WIND", 0, 3, -2, v -> x.lead(5, v, 5));
        Edges.bounds("57 to", 0, 9, -2, v -> x.lead(5, 0, v));
        due("57 made by the last that was allowed", x.leads(5, 0), 9);
        due("57 where it led", x.lead(5, 0, 5), 9);
        due("57 itself: none does", x.leads(5, 0), 5);
        due("57 itself: none did", x.lead(5, 0, 9), 5);
        due("57 one way", x.leads(9, 2), 9);
        LostWood y = Edges.ten();
        int ways = y.count(1);
        due("57 none did", y.lead(0, 0, 0), 0);
        due("61 as many", y.count(1), ways);
        due("57 one did", y.lead(0, 1, 0), 1);
        due("61 one fewer", y.count(1), ways - 1);
        due("57 the way back stays", y.leads(1, 3), 0);
        due("13 a STEP that stays is one", y.goes(3, 0), 4);
        due("57 one has gone", y.lead(0, 1, 1), -5);
        due("57 one has gone, to itself", y.lead(0, 1, 0), -5);
        due("57 none such", y.lead(10, 1, 1), -2);
        due("57 none such", y.lead(0, 4, 1), -2);
        due("57 none such", y.lead(0, 1, 10), -2);
        due("57 all stays", y.leads(0, 1), 0);
        due("16 undo", y.undo(), 0);
        due("57 nobody has gone", y.lead(0, 1, 1), 0);
        y.goes(0, 0);
        due("58 one stayed by a STEP", y.marks(0, 0), -5);
        due("57 one stayed by a STEP", y.lead(0, 1, 0), -5);
        due("17 anew", y.anew(), 1);
        due("57 nobody has gone", y.lead(0, 1, 0), 1);
        due("57 no WOOD", new LostWood().lead(0, 0, 0), -2);
        Edges.stays("57 refused", z -> {
            due("57 one has gone", z.lead(0, 0, 9), -5);
            z.lead(0, 4, 9);
            z.lead(0, 0, 10);
            z.lead(10, 0, 9);
        });
        LostWood refused = Edges.ten();
        refused.lead(10, 0, 0);
        refused.lead(0, -1, 9);
        refused.lead(0, 4, 9);
        refused.lead(9, 0, 10);
        refused.lead(-1, 3, 0);
        Edges.same("57 none such", refused, Edges.ten());
    }

    private static void marks() {
        LostWood x = Edges.ten();
        Edges.bounds("58 PLACE", 0, 9, -2, v -> x.marks(v, 0));
        Edges.bounds("58 n", 0, 9, -2, v -> x.marks(5, v));
        due("58 made by the last that was allowed", x.mark(5), 9);
        due("58 what it was", x.marks(5, 0), 9);
        due("58 without", x.marks(5, 9), 0);
        due("61 marks", x.count(2), 1);
        LostWood y = Edges.ten();
        due("13 goes", y.goes(0, 1), 1);
        due("58 one has gone", y.marks(9, 0), -5);
        due("58 none such", y.marks(10, 0), -2);
        due("58 none such", y.marks(9, 10), -2);
        due("58 all stays", y.mark(9), 9);
        due("16 undo", y.undo(), 0);
        due("58 nobody has gone", y.marks(9, 0), 9);
        due("58 what they THINK stays", y.thinks(2), 1023);
        // Twice east both are in 9.
        due("58 a PLAN", y.plan(0b0110000000), 2);
        due("58 what it was", y.marks(8, 4), 0);
        due("58 another PLAN", y.plan(0b0110000000), 0);
        due("58 no WOOD", new LostWood().marks(0, 0), -2);
        Edges.stays("58 refused", z -> {
            due("58 one has gone", z.marks(0, 9), -5);
            z.marks(0, 10);
            z.marks(0, -1);
            z.marks(10, 0);
        });
        LostWood refused = Edges.ten();
        refused.marks(10, 9);
        refused.marks(-1, 9);
        refused.marks(0, 10);
        refused.marks(0, -1);
        Edges.same("58 none such", refused, Edges.ten());
    }

    /** What asks alone changes nothing, answered or refused. */
    private static void askedAlone() {
        Edges.stays("30 to 32 asked", z -> {
            z.plan(1023);
            z.plan(0);
            z.first(6);
            z.first(1024);
            z.hardest();
        });
        Edges.stays("33 to 38, 42, 43 asked", z -> {
            z.alike(0, 10);
            z.kinds();
            z.tells(4, 5);
            z.told(4, 5, 4);
            z.bares(0, 9);
            z.bared(0, 9);
            z.bared(10, 9);
            z.meet(0, 9);
            z.met(0, -1);
        });
        Edges.stays("39 to 41, 44 to 47 asked", z -> {
            z.gather(1023);
            z.gathers(1023, 9);
            z.roundabout(1024);
            for (int slot = -1; slot <= 4; slot++) {
                z.read(slot);
                z.began(slot);
                z.ask(slot);
                z.leaves(slot);
            }
        });
        Edges.stays("48 to 50: all is as ahead of it then", z -> {
            for (int slot = -1; slot <= 4; slot++) {
                z.course(slot, 1);
                z.lesson(slot, 2, 4);
                z.spoilt(slot, 3);
            }
        });
        Edges.stays("51 to 56 asked", z -> {
            z.route(0, 9);
            z.dark(9, 0);
            z.detour(0, 10);
            z.fog(0, 9, 15, 1);
            z.fog(0, 9, 16, 1);
            z.likely(0, 15);
            z.can(0, 16);
        });
    }
}
