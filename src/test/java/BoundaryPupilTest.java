/** The boundary cases of PLACES, SETS, PUPILS, their STEPS and WALKS: promises 6 to 29, II to IV. */
public final class BoundaryPupilTest {
    private BoundaryPupilTest() {
    }

    private static void due(String call, long got, long want) {
        Support.due(call, got, want);
    }

    public static void main(String[] args) {
        leads();
        mark();
        becomes();
        seen();
        wherePupilsAre();
        whatPupilsAre();
        goesRound();
        goesSixty();
        goesRefused();
        thinksOfNothing();
        mostAndWho();
        undoAndAnew();
        Edges.walkAsked("18 would", LostWood::would);
        Edges.walkAsked("19 think", LostWood::think);
        Edges.walkAsked("20 knows", LostWood::knows);
        Edges.walkAsked("21 loses", LostWood::loses);
        Edges.walkAsked("22 doubts", LostWood::doubts);
        walksOfNoneAndSixty();
        walksOfEachLength();
        walksChangeNothing();
        blur();
        blurAtLeast();
        stray();
        home();
        states();
        Support.finish("BoundaryPupilTest");
    }

    private static void leads() {
        LostWood x = Edges.ten();
        Edges.bounds("6 PLACE", 0, 9, -2, v -> x.leads(v, 0));
        Edges.bounds("6 WIND", 0, 3, -2, v -> x.leads(0, v));
        due("6 both wrong", x.leads(10, 4), -2);
        due("6 the last PLACE", x.leads(9, 3), 8);
        due("6 itself, no way does", x.leads(9, 1), 9);
        due("6 itself, no way does", x.leads(0, 3), 0);
        due("6 itself, no way does", x.leads(0, 0), 0);
        LostWood y = Support.wood(Edges.TWO);
        Edges.bounds("6 PLACE of two", 0, 1, -2, v -> y.leads(v, 3));
        due("6 itself", y.leads(1, 3), 1);
        Edges.stays("6 asked", z -> {
            z.leads(0, 1);
            z.leads(10, 0);
            z.leads(0, 4);
            z.mark(9);
            z.mark(10);
        });
    }

    private static void mark() {
        LostWood x = Edges.ten();
        Edges.bounds("7 PLACE", 0, 9, -2, x::mark);
        due("7 the greatest", x.mark(9), 9);
        due("7 without", x.mark(8), 0);
        LostWood y = Support.wood(Edges.TWO);
        Edges.bounds("7 PLACE of two", 0, 1, -2, y::mark);
    }

    private static void becomes() {
        LostWood x = Edges.ten();
        Edges.bounds("8 SET", 1, 1023, -2, v -> x.becomes(v, 0));
        Edges.bounds("8 WIND", 0, 3, -2, v -> x.becomes(1, v));
        due("8 of none", x.becomes(0, 1), -2);
        due("8 all", x.becomes(1023, 1), 1022);
        due("8 all", x.becomes(1023, 3), 511);
        due("8 all stay", x.becomes(1023, 2), 1023);
        due("8 two become one", x.becomes(0b11 << 8, 1), 1 << 9);
        due("8 one stays", x.becomes(1, 3), 1);
        due("8 the first bit beyond", x.becomes(1024 | 1, 0), -2);
        LostWood y = Support.wood(Edges.TWO);
        Edges.bounds("8 SET of two", 1, 3, -2, v -> y.becomes(v, 3));
    }

    private static void seen() {
        LostWood x = Edges.ten();
        Edges.bounds("9 SET", 1, 1023, -2, v -> x.seen(v, 0));
        Edges.bounds("9 mark", 0, 9, -2, v -> x.seen(1023, v));
        due("9 without", x.seen(1023, 0), 0b0111111110);
        due("9 the greatest", x.seen(1023, 9), 512);
        due("9 none of them", x.seen(511, 9), 0);
        due("9 none of all", x.seen(1023, 8), 0);
        due("9 of none", x.seen(0, 0), -2);
        LostWood y = Support.wood(Edges.TWO);
        Edges.bounds("9 SET of two", 1, 3, -2, v -> y.seen(v, 0));
        Edges.stays("8, 9 asked", z -> {
            z.becomes(1023, 1);
            z.becomes(1024, 1);
            z.becomes(0, 1);
            z.becomes(1, -1);
            z.seen(1023, 9);
            z.seen(1024, 9);
            z.seen(1, 10);
        });
    }

    private static void wherePupilsAre() {
        LostWood x = Edges.ten();
        Edges.bounds("10 PUPIL", 0, 3, -2, x::where);
        Edges.bounds("11 PUPIL", 0, 3, -2, x::thinks);
        due("10 the last PUPIL", x.where(3), 5);
        due("10 the last PLACE", x.where(2), 9);
        due("11 one", x.thinks(3), 1 << 4);
        due("11 all", x.thinks(2), 1023);
        LostWood one = Support.wood("wood places 2;pupil in 1 lies 0 thinks 0;");
        Edges.bounds("10 PUPIL of one", 0, 0, -2, one::where);
        Edges.bounds("11 PUPIL of one", 0, 0, -2, one::thinks);
        LostWood none = Support.wood(Edges.TWO);
        due("10 without PUPILS", none.where(0), -2);
        due("11 without PUPILS", none.thinks(0), -2);
        due("12 without PUPILS", none.pupil(0, 0), -2);
        due("13 without PUPILS", none.goes(0, 0), -2);
    }

    private static void whatPupilsAre() {
        LostWood x = Edges.ten();
        Edges.bounds("12 PUPIL", 0, 3, -2, v -> x.pupil(v, 0));
        Edges.bounds("12 what", 0, 3, -2, v -> x.pupil(0, v));
        for (int p = 0; p < 4; p++) {
            due("12 lies", x.pupil(p, 0), p);
        }
        int[][] want = {{1, 1, 0}, {2, 0, 0}, {10, 0, 0}, {1, 0, 1}};
        for (int p = 0; p < 4; p++) {
            due("12 DOUBT", x.pupil(p, 1), want[p][0]);
            due("12 KNOWS", x.pupil(p, 2), want[p][1]);
            due("12 LOST", x.pupil(p, 3), want[p][2]);
        }
        Edges.stays("10 to 12 asked", z -> {
            z.where(0);
            z.where(4);
            z.thinks(3);
            z.thinks(-1);
            z.pupil(0, 3);
            z.pupil(0, 4);
            z.pupil(4, 0);
        });
    }

    /** From the middle of a star each WIND leads elsewhere: by lies and WIND, round modulo 4. */
    private static void goesRound() {
        LostWood x = Support.wood("wood places 5;way 0 n to 1;way 0 e to 2;way 0 s to 3;way 0 w to 4;"
                + "pupil in 0 lies 0 thinks 0;pupil in 0 lies 1 thinks 0;pupil in 0 lies 2 thinks 0;pupil in 0 lies 3 thinks 0;");
        int[][] to = {{1, 2, 3, 4}, {2, 3, 4, 1}, {3, 4, 1, 2}, {4, 1, 2, 3}};
        for (int p = 0; p < 4; p++) {
            for (int wind = 0; wind < 4; wind++) {
                due("13 lies " + p + ", WIND " + wind, x.goes(p, wind), to[p][wind]);
                // What it THINKS goes by the WIND told.
                due("13 THINKS", x.thinks(p), 1 << 1 + wind);
                due("12 LOST", x.pupil(p, 3), p == 0 ? 0 : 1);
                due("12 KNOWS", x.pupil(p, 2), p == 0 ? 1 : 0);
                due("16 undo", x.undo(), 0);
            }
        }
    }

    private static void goesSixty() {
        LostWood x = Edges.ten();
        for (int n = 1; n <= 59; n++) {
            due("13 goes", x.goes(0, n % 2 == 1 ? 1 : 3), n % 2);
        }
        due("61 STEPS", x.count(7), 59);
        due("13 the sixtieth", x.goes(3, 2), 6);
        due("61 STEPS", x.count(7), 60);
        for (int p = 0; p < 4; p++) {
            due("13 there were 60, of any PUPIL", x.goes(p, 1), -5);
        }
        due("13 nothing happened", x.count(7), 60);
        due("13 nothing happened", x.where(0), 1);
        due("13 nothing happened", x.where(3), 6);
        due("13 none such", x.goes(4, 1), -2);
        due("13 none such", x.goes(0, 4), -2);
        Support.fill(x, 0, 1, 1);
        due("18 a WALK is no STEPS that are made", x.would(0, 0), 3);
        due("59 so is one that is drawn", x.drawn(1, 0, 40, 1) < 0 ? 1 : 0, 0);
        due("62 image", x.image(0), 0);
        due("16 undo", x.undo(), 59);
        due("16 the sixtieth is taken back", x.where(3), 5);
        due("13 one more", x.goes(1, 0), 2);
        due("13 there were 60", x.goes(1, 0), -5);
        due("63 back", x.back(0), 0);
        due("63 there are 60", x.goes(0, 1), -5);
        for (int n = 59; n >= 0; n--) {
            due("16 undo", x.undo(), n);
        }
        due("16 none is left", x.undo(), -5);
        due("16 as told", x.where(0), 0);
        due("13 goes", x.goes(0, 1), 1);
    }

    private static void goesRefused() {
        LostWood x = Edges.ten();
        Edges.bounds("13 PUPIL", 0, 3, -2, v -> x.goes(v, 0));
        Edges.bounds("13 WIND", 0, 3, -2, v -> x.goes(0, v));
        due("61 those allowed were made", x.count(7), 4);
        Edges.stays("13 refused", z -> {
            due("13 PUPIL", z.goes(4, 0), -2);
            due("13 PUPIL", z.goes(-1, 0), -2);
            due("13 WIND", z.goes(0, 4), -2);
            due("13 WIND", z.goes(0, -1), -2);
        });
    }

    /** If nothing that it THINKS shows the mark, all PLACES with that mark. */
    private static void thinksOfNothing() {
        LostWood x = Support.wood("wood places 5;mark 0 1;mark 4 1;mark 3 9;way 0 e to 3;way 3 n to 0;way 1 e to 3;"
                + "pupil in 0 lies 0 thinks 1;pupil in 1 lies 0 thinks 1 2;");
        due("III as told at first, whatever the mark", x.thinks(0), 0b00010);
        due("13 stays", x.goes(0, 0), 0);
        due("III all with that mark", x.thinks(0), 0b10001);
        due("13 to the only one", x.goes(0, 1), 3);
        due("III alone", x.thinks(0), 0b01000);
        due("13 goes", x.goes(1, 1), 3);
        due("III one of two", x.thinks(1), 0b01000);
        due("13 back", x.goes(1, 0), 0);
        due("III KNOWS still", x.thinks(1), 0b00001);
        due("12 KNOWS", x.pupil(1, 2), 1);
        due("16 undo", x.undo(), 3);
        due("16 undo", x.undo(), 2);
        due("16 undo", x.undo(), 1);
        due("16 undone", x.thinks(0), 0b10001);
        due("16 undo", x.undo(), 0);
        due("16 as told", x.thinks(0), 0b00010);
    }

    private static void mostAndWho() {
        LostWood x = Edges.ten();
        due("14 one", x.most(), 0b0100);
        due("15 KNOW", x.who(0), 0b0001);
        due("15 LOST", x.who(1), 0b1000);
        Edges.bounds("15 what", 0, 1, -2, x::who);
        LostWood none = Support.wood(Edges.TWO);
        due("14 there are none", none.most(), 0);
        due("15 there are none", none.who(0), 0);
        due("15 there are none", none.who(1), 0);
        due("15 what", none.who(2), -2);
        LostWood like = Support.wood("wood places 2;" + "pupil in 1 lies 0 thinks 1;".repeat(4));
        due("14 all", like.most(), 0b1111);
        due("15 all", like.who(0), 0b1111);
        due("15 none of them", like.who(1), 0);
        LostWood last = Support.wood("wood places 3;pupil in 0 lies 0 thinks 0 1;pupil in 0 lies 0 thinks 1;"
                + "pupil in 0 lies 0 thinks 1 2;pupil in 0 lies 0 thinks 2;");
        due("14 several", last.most(), 0b0101);
        due("15 LOST", last.who(1), 0b1110);
        due("15 none KNOWS", last.who(0), 0);
        Edges.stays("14, 15 asked", z -> {
            z.most();
            z.who(0);
            z.who(1);
            z.who(2);
            z.who(-1);
        });
    }

    private static void undoAndAnew() {
        LostWood x = Edges.ten();
        due("16 there is none", x.undo(), -5);
        due("17 there were none", x.anew(), 0);
        due("16 there is none", x.undo(), -5);
        due("61 STEPS", x.count(7), 0);
        x.goes(2, 1);
        x.goes(0, 1);
        x.goes(2, 1);
        due("16 the latest, of any", x.undo(), 2);
        due("16 others stay", x.where(0), 1);
        due("16 its own", x.where(2), 8);
        due("16 the latest", x.undo(), 1);
        due("16 another's", x.where(0), 0);
        due("16 others stay", x.where(2), 8);
        x.goes(3, 2);
        due("17 how many there were", x.anew(), 2);
        for (int p = 0; p < 4; p++) {
            due("17 as told", x.where(p), new int[] {0, 1, 9, 5}[p]);
            due("17 as told", x.thinks(p), new int[] {1, 6, 1023, 16}[p]);
        }
        due("17 there were none", x.anew(), 0);
        due("16 there is none", x.undo(), -5);
        due("57 nobody has gone", x.lead(0, 0, 9), 0);
        due("17 what was made otherwise stays", x.anew(), 0);
        due("17 what was made otherwise stays", x.leads(0, 0), 9);
        LostWood none = Support.wood(Edges.TWO);
        due("16 without PUPILS", none.undo(), -5);
        due("17 without PUPILS", none.anew(), 0);
        LostWood no = new LostWood();
        due("16 no WOOD", no.undo(), -2);
        due("17 no WOOD", no.anew(), -2);
        LostWood y = Edges.full();
        y.undo();
        y.undo();
        y.undo();
        y.undo();
        LostWood z = Edges.full();
        z.anew();
        due("16 refused", z.undo(), -5);
        Edges.same("16, 17 all taken back", y, z);
    }

    private static void walksOfNoneAndSixty() {
        LostWood x = Support.wood("wood places 3;mark 2 1;way 0 e to 2;pupil in 0 lies 0 thinks 0 1;"
                + "pupil in 0 lies 0 thinks 2;pupil in 1 lies 0 thinks 1;");
        x.row(0, 0, 0);
        due("18 no STEPS: where it is", x.would(0, 0), 0);
        due("19 no STEPS: what it THINKS", x.think(0, 0), 0b011);
        due("20 no STEPS: never", x.knows(0, 0), -1);
        due("20 no STEPS: now", x.knows(0, 2), 0);
        due("21 no STEPS: never", x.loses(0, 0), -1);
        due("21 no STEPS: now", x.loses(0, 1), 0);
        due("22 no STEPS: as now", x.doubts(0, 0), 2);
        due("22 no STEPS: as now", x.doubts(0, 1), 1);
        x.row(1, 3, 60);
        x.write(1, 59, 1);
        due("18 all sixty", x.would(1, 0), 2);
        due("19 all sixty", x.think(1, 0), 0b100);
        due("20 behind the last", x.knows(1, 0), 60);
        due("21 never", x.loses(1, 0), -1);
        x.write(1, 59, 0);
        due("18 stays", x.would(1, 0), 0);
        due("20 never", x.knows(1, 0), -1);
        x.write(1, 0, 1);
        due("20 behind the first", x.knows(1, 0), 1);
        due("22 now is the greatest", x.doubts(1, 0), 2);
        // Told north it sees no mark: 0 or 1; then east in 2 it KNOWS: greatest in between.
        Support.fill(x, 2, 0, 1);
        due("22 in between", x.doubts(2, 1), 2);
        due("19 at the end", x.think(2, 1), 0b100);
        due("20 at the end", x.knows(2, 1), 2);
        due("21 LOST now, though not then", x.loses(2, 1), 0);
        due("20 KNOWS now", x.knows(2, 2), 0);
        Support.fill(x, 2, 0);
        due("22 at the end", x.doubts(2, 1), 2);

        // Told south it goes west and stays; told north it goes east and thinks to stay.
        LostWood y = Support.wood("wood places 2;way 0 e to 1;pupil in 0 lies 1 thinks 0;");
        y.row(0, 1, 60);
        for (int i = 0; i < 59; i++) {
            y.write(0, i, 2);
        }
        due("21 behind the last", y.loses(0, 0), 60);
        due("18 sixty", y.would(0, 0), 1);
        due("20 now", y.knows(0, 0), 0);
        y.write(0, 59, 2);
        due("21 never", y.loses(0, 0), -1);
    }

    /** In a ring of five by north: as many STEPS as there are numbers, no more. */
    private static void walksOfEachLength() {
        LostWood x = Support.wood("wood places 5;way 0 n to 1;way 1 n to 2;way 2 n to 3;way 3 n to 4;way 4 n to 0;"
                + "pupil in 0 lies 0 thinks 0;pupil in 3 lies 0 thinks 3 4;");
        for (int n = 0; n <= 60; n++) {
            x.row(n % 4, n % 3, n);
            due("18 " + n + " STEPS", x.would(n % 4, 0), n % 5);
            due("19 " + n + " STEPS", x.think(n % 4, 0), 1 << n % 5);
            due("18 " + n + " STEPS", x.would(n % 4, 1), (n + 3) % 5);
            due("19 " + n + " STEPS", x.think(n % 4, 1), 1 << (n + 3) % 5 | 1 << (n + 4) % 5);
        }
    }

    private static void walksChangeNothing() {
        Edges.stays("18 to 22 asked", z -> {
            for (int slot = -1; slot <= 4; slot++) {
                z.would(slot, 0);
                z.think(slot, 1);
                z.knows(slot, 2);
                z.loses(slot, 3);
                z.doubts(slot, 4);
            }
        });
        Edges.stays("23 to 29 asked", z -> {
            for (int p = -1; p <= 4; p++) {
                z.blur(p, 2);
                z.blurs(p, 2, 0);
                z.stray(p);
                z.strays(p, 0);
                z.home(p);
                z.homes(p, 0);
                z.states(p);
            }
        });
    }

    private static void blur() {
        LostWood x = Edges.ten();
        Edges.bounds("23 PUPIL", 0, 3, -2, v -> x.blur(v, 1));
        Edges.bounds("24 PUPIL", 0, 3, -2, v -> x.blurs(v, 1, 0));
        due("23 n of 1", x.blur(0, 1), 0);
        Edges.refusedBelow("23 n below 1", 1, -2, v -> x.blur(0, v));
        Edges.refusedBelow("24 n below 1", 1, -2, v -> x.blurs(0, v, 0));
        due("24 n below 1, i none", x.blurs(0, 0, -1), -2);
        due("24 no PUPIL, i none", x.blurs(4, 1, 99), -2);
        due("23 as now", x.blur(2, 10), 0);
        due("23 more than PLACES", x.blur(2, 11), -1);
        due("23 n far above", x.blur(2, Integer.MAX_VALUE), -1);
        due("24 n far above", x.blurs(2, Integer.MAX_VALUE, 0), -1);
        due("23 it KNOWS for ever", x.blur(0, 2), -1);
        Edges.winds("24 no STEPS", v -> x.blurs(2, 10, v));
        Edges.winds("24 never", v -> x.blurs(0, 2, v));
        // Told north it sees that it is not in 3: in 0, 1 or 2.
        LostWood y = Support.wood("wood places 4;mark 3 1;pupil in 0 lies 0 thinks 3;");
        due("23 now", y.blur(0, 1), 0);
        due("23 at least", y.blur(0, 2), 1);
        due("23 just", y.blur(0, 3), 1);
        due("23 one more", y.blur(0, 4), -1);
        Edges.winds("24 the least WIND", v -> y.blurs(0, 2, v), 0);
        Edges.winds("24 the least WIND", v -> y.blurs(0, 3, v), 0);
        Edges.winds("24 none", v -> y.blurs(0, 4, v));
    }

    /** Two STEPS to 3 by s w or w n (s w is less), where the mark of another PLACE makes it doubt. */
    private static void blurAtLeast() {
        LostWood x = Support.wood("wood places 6;mark 3 1;mark 4 1;mark 5 2;way 0 s to 1;way 1 w to 3;way 0 w to 2;way 2 n to 3;"
                + "pupil in 0 lies 0 thinks 5;");
        // All without a mark are 0, 1, 2 at the first STEP already.
        due("23 one STEP", x.blur(0, 3), 1);
        LostWood y = Support.wood("wood places 6;mark 0 3;mark 1 4;mark 2 5;mark 3 1;mark 4 1;mark 5 2;way 0 s to 1;"
                + "way 1 w to 3;way 0 w to 2;way 2 n to 3;pupil in 0 lies 0 thinks 5;");
        // Each STEP tells by its mark; but 3 and 4 look one, and from 5 or 1 it is told which.
        due("23 never", y.blur(0, 2), -1);
        LostWood z = Support.wood("wood places 6;mark 0 3;mark 1 4;mark 2 5;mark 3 1;mark 4 1;mark 5 2;way 0 s to 1;"
                + "way 1 w to 3;way 0 w to 2;way 2 n to 3;pupil in 0 lies 0 thinks 0;pupil in 0 lies 1 thinks 0;");
        due("23 one whose compass tells the truth", z.blur(0, 2), -1);
        // Told e it goes s to 1 (mark 4: so it KNOWS); told s it goes w to 3, and thinks to stay in 1: 3 or 4.
        due("23 one whose compass lies", z.blur(1, 2), 2);
        Edges.winds("24 two", v -> z.blurs(1, 2, v), 1, 2);
    }

    private static void stray() {
        LostWood x = Edges.ten();
        Edges.bounds("25 PUPIL", 0, 3, -2, x::stray);
        Edges.bounds("26 PUPIL", 0, 3, -2, v -> x.strays(v, 0));
        due("26 no PUPIL, i none", x.strays(4, -1), -2);
        due("25 LOST now", x.stray(3), 0);
        Edges.winds("26 no STEPS", v -> x.strays(3, v));
        due("25 never", x.stray(0), -1);
        Edges.winds("26 never", v -> x.strays(0, v));
        // It lies by 1: told north it goes east to 2, one of 1 and 2; told east it stays in 1, and THINKS 2 or 3.
        due("25 one", x.stray(1), 1);
        Edges.winds("26 not the least WIND", v -> x.strays(1, v), 1);
        LostWood y = Support.wood("wood places 2;way 0 w to 1;pupil in 0 lies 3 thinks 0;");
        due("25 one", y.stray(0), 1);
        Edges.winds("26 the first WALK", v -> y.strays(0, v), 0);
        LostWood z = Support.wood("wood places 3;way 0 n to 1;way 0 s to 2;pupil in 0 lies 2 thinks 0;");
        due("25 one of two", z.stray(0), 1);
        Edges.winds("26 the least of several", v -> z.strays(0, v), 0);
        due("29 states", z.states(0), 3);
    }

    private static void home() {
        LostWood x = Edges.ten();
        Edges.bounds("27 PUPIL", 0, 3, -2, x::home);
        Edges.bounds("28 PUPIL", 0, 3, -2, v -> x.homes(v, 0));
        due("28 no PUPIL, i none", x.homes(-1, 0), -2);
        due("27 KNOWS now", x.home(0), 0);
        Edges.winds("28 no STEPS", v -> x.homes(0, v));
        // In 9, whose mark is like no other: any STEP by which it stays tells, north the least.
        due("27 one", x.home(2), 1);
        Edges.winds("28 the least of several", v -> x.homes(2, v), 0);
        LostWood never = Support.wood("wood places 2;pupil in 0 lies 0 thinks 0 1;pupil in 0 lies 0 thinks 1;");
        due("27 never", never.home(0), -1);
        Edges.winds("28 never", v -> never.homes(0, v));
        due("27 LOST for ever", never.home(1), -1);
        due("29 as now alone", never.states(0), 1);
        due("29 as now alone", never.states(1), 1);
        // n e and e n are as long: n e is less.
        LostWood y = Support.wood("wood places 6;way 0 n to 1;way 1 e to 4;way 0 e to 2;way 2 n to 4;mark 4 1;"
                + "pupil in 0 lies 0 thinks 0 5 3;");
        due("27 two", y.home(0), 2);
        Edges.winds("28 the least row", v -> y.homes(0, v), 0, 1);
        due("13 goes", y.goes(0, 1), 2);
        due("27 from now on", y.home(0), 1);
        Edges.winds("28 from now on", v -> y.homes(0, v), 0);
        due("13 goes", y.goes(0, 0), 4);
        due("27 now", y.home(0), 0);
        Edges.winds("28 now", v -> y.homes(0, v));
        due("16 undo", y.undo(), 1);
        due("27 from now on", y.home(0), 1);
    }

    private static void states() {
        LostWood x = Edges.ten();
        Edges.bounds("29 PUPIL", 0, 3, -2, x::states);
        due("29 one who KNOWS", x.states(0), 10);
        // As now, too: behind the first STEP it never THINKS 1 again.
        LostWood y = Support.wood("wood places 2;mark 0 1;pupil in 0 lies 0 thinks 1;");
        due("29 as now, too", y.states(0), 2);
        y.goes(0, 0);
        due("29 from now on", y.states(0), 1);
        y.undo();
        due("29 taken back", y.states(0), 2);
        LostWood none = Support.wood(Edges.TWO);
        due("29 no PUPIL", none.states(0), -2);
        due("23 no PUPIL", none.blur(0, 1), -2);
        due("25 no PUPIL", none.stray(0), -2);
        due("27 no PUPIL", none.home(0), -2);
    }
}
