/** For each promise: ordinary inputs, the edges that the document names, and wrong inputs. */
public final class PromiseTest {
    /** Four PLACES in a row from west to east, marks 1, 0, 0, 2; two PUPILS, three LESSONS. */
    private static final String ROW = "wood places 4; way 0 e to 1 back; way 1 e to 2 back;\n"
            + "way 2 e to 3 back; mark 0 1; mark 3 2; pupil in 0 lies 0 thinks 0 1;\n"
            + "pupil in 1 lies 2 thinks 1 2; lesson bare 0; lesson lies 1; lesson shut 1 e;";

    private PromiseTest() {
    }

    private static void due(String call, long got, long want) {
        Support.due(call, got, want);
    }

    public static void main(String[] args) {
        newObject();
        tape();
        woodAndFaults();
        faultsOfLines();
        laterLinesStrike();
        placesAndSets();
        pupils();
        steps();
        stepLimit();
        walks();
        firstWalks();
        plans();
        alike();
        bare();
        gather();
        meet();
        readings();
        courses();
        ways();
        fog();
        changes();
        draws();
        counts();
        images();
        slots();
        paste();
        Support.finish("PromiseTest");
    }

    private static void newObject() {
        LostWood x = new LostWood();
        due("1 NONE", LostWood.NONE, -1);
        for (int what = 0; what <= 8; what++) {
            due("1 count(" + what + ")", x.count(what), 0);
        }
        due("1 leads", x.leads(0, 0), -2);
        due("1 most", x.most(), -2);
        due("1 who", x.who(0), -2);
        due("1 undo", x.undo(), -2);
        due("1 anew", x.anew(), -2);
        due("1 hardest", x.hardest(), -2);
        due("1 kinds", x.kinds(), -2);
        due("1 plan", x.plan(1), -2);
        due("1 gather", x.gather(1), -2);
        due("1 back", x.back(0), -6);
        due("1 fault(0)", x.fault(0), 0);
        due("1 fault(1)", x.fault(1), -1);
    }

    private static void tape() {
        LostWood x = new LostWood();
        for (int i = 1; i <= 50; i++) {
            due("2 feed", x.feed(i, i, i, i, i), 20 * i);
        }
        due("2 feed beyond 1,000", x.feed(0, 0, 0, 0, 0), -1);
        due("2 none came", x.count(6), 1000);
        due("3 end", x.end(1001), -1);
        due("3 end", x.end(-1), -1);
        due("3 nothing happened", x.count(6), 1000);
        due("3 end", x.end(1000), 1000);
        due("3 end", x.end(981), 981);
        due("2 feed of 1,001", x.feed(0, 0, 0, 0, 0), -1);
        due("3 end", x.end(982), -1);
        due("3 end", x.end(980), 980);
        due("2 feed of 1,000", x.feed(0, 0, 0, 0, 0), 1000);
        due("3 end", x.end(0), 0);
        due("3 count", x.count(6), 0);
        due("3 end", x.end(1), -1);
        // "wood places 3;" by its numbers, the highest byte first, blanks behind
        due("2 feed", x.feed(0x776f6f64, 0x20706c61, 0x63657320, 0x333b2020, 0x20202020), 20);
        due("2 bytes in their order", x.wood(), 1);
        due("2 PLACES", x.count(0), 3);
        due("2 bytes above 127", x.feed(0x80ffffff, -1, -1, -1, -1), 20);
        due("2 wood", x.wood(), -4);
        due("2 fault", x.fault(0), 1);
        due("2 place", x.fault(1), 0);
    }

    private static void woodAndFaults() {
        LostWood x = new LostWood();
        due("4 empty", x.wood(), 0);
        due("5 fault", x.fault(0), 0);
        due("5 place", x.fault(1), -1);
        Support.tell(x, ROW);
        due("4 LINES", x.wood(), 11);
        due("4 TAPE empty", x.count(6), 0);
        due("4 LINES", x.count(5), 11);
        x.goes(0, 1);
        Support.tell(x, "wood places 3; way 0 n to 3;");
        due("4 FAULT", x.wood(), -4);
        due("5 kind", x.fault(0), 2);
        due("5 place", x.fault(1), 26);
        due("5 what", x.fault(2), -1);
        due("5 what", x.fault(-1), -1);
        due("4 TAPE stays", x.count(6), 28);
        due("4 WOOD stays", x.count(0), 4);
        due("4 STEPS stay", x.count(7), 1);
        due("4 where stays", x.where(0), 1);
        due("4 the same TAPE", x.wood(), -4);
        due("5 the same place", x.fault(1), 26);
        due("3 its good part", x.end(14), 14);
        due("62 image", x.image(0), 0);
        due("4 its good part", x.wood(), 1);
        due("5 without", x.fault(0), 0);
        due("63 back", x.back(0), 0);
        due("63 fault() is of the latest wood()", x.fault(0), 0);
        Support.tell(x, "wood places 2; pupil in 1 lies 0 thinks 0;");
        due("4 in place of another", x.wood(), 2);
        due("5 without", x.fault(0), 0);
        due("5 without", x.fault(1), -1);
        due("4 nobody has gone", x.count(7), 0);
        due("4 PLACES", x.count(0), 2);
        due("4 no ways", x.count(1), 0);
        due("4 no marks", x.count(2), 0);
        due("4 LESSONS", x.count(4), 0);
        due("4 where", x.where(0), 1);
        Support.tell(x, " \n ");
        due("4 blanks", x.wood(), 0);
        due("4 there is none then", x.most(), -2);
        due("4 there is none then", x.count(0), 0);
        due("4 there is none then", x.where(0), -2);
        Support.tell(x, "\n\nwood\nplaces10;way 0n to9back;");
        due("4 TOKENS without blanks", x.wood(), 2);
        due("4 lead", x.leads(9, 2), 0);
    }

    private static void fault(String text, int kind, int place) {
        Support.fault(text, kind, place);
    }

    private static void faultsOfLines() {
        String w = "wood places 3;";
        fault("way 0 n to 1;", 1, 0);
        fault("  way 0 n to 1;", 1, 2);
        fault("wood place 3;", 1, 5);
        fault("wood places 3", 1, 13);
        fault("wood places 3  ", 1, 15);
        fault("wood places 1;", 2, 12);
        fault("wood places 11;", 2, 12);
        fault("wood places 99999999999999999999;", 2, 12);
        fault("wood places 4294967299;", 2, 12);
        fault("wood places 010;", 0, -1);
        fault("wood places ;", 1, 12);
        fault("woods places 3;", 1, 0);
        fault("Wood places 3;", 1, 0);
        fault(";", 1, 0);
        fault("3", 1, 0);
        fault(w + ";", 1, 14);
        fault(w + "wood places 3;", 1, 14);
        fault(w + "\t", 1, 14);
        fault(w + "way 0 n to 1", 1, 26);
        fault(w + "way 0 n to 3;", 2, 25);
        fault(w + "way 3 x to 1;", 2, 18);
        fault(w + "way 0 x to 1;", 1, 20);
        fault(w + "way 0 ne to 1;", 1, 20);
        fault(w + "way 0 n 1;", 1, 22);
        fault(w + "way 0 n to 1 bac;", 1, 27);
        fault(w + "way 0 n to 1 back back;", 1, 32);
        fault(w + "way 0 n to 1,", 1, 26);
        fault(w + "mark 0 10;", 2, 21);
        fault(w + "mark 3 1;", 2, 19);
        fault(w + "mark 0 9;mark 0 0;", 0, -1);
        fault(w + "mark 0;", 1, 20);
        fault(w + "mark 0 1 1;", 1, 23);
        fault(w + "pupil in 3 lies 0 thinks 0;", 2, 23);
        fault(w + "pupil in 0 lies 4 thinks 0;", 2, 30);
        fault(w + "pupil in 0 lies 3 thinks;", 1, 38);
        fault(w + "pupil in 0 lies 3 thinks 0 1 2 2 0;", 0, -1);
        fault(w + "pupil in 0 lies 3 thinks 0 3;", 2, 41);
        fault(w + "pupil in 0 thinks 0;", 1, 25);
        fault(w + "pupil at 0 lies 0 thinks 0;", 1, 20);
        fault(w + "lesson bare 3;", 2, 26);
        fault(w + "lesson bare;", 1, 25);
        fault(w + "lesson lies 0;", 2, 26);
        fault(w + "lesson lies 4;", 2, 26);
        fault(w + "lesson lies 3;lesson lies 1;", 0, -1);
        fault(w + "lesson shut 0;", 1, 27);
        fault(w + "lesson shut 0 5;", 1, 28);
        fault(w + "lesson shut 3 w;", 2, 26);
        fault(w + "lesson dark 0;", 1, 21);
        fault(w + "pupil in 0 lies 0 thinks 0;".repeat(4), 0, -1);
        fault(w + "pupil in 0 lies 0 thinks 0;".repeat(5), 3, 14 + 4 * 27);
        fault(w + "pupil in 0 lies 0 thinks 0;".repeat(4) + "pupil?", 3, 14 + 4 * 27);
        fault(w + "pupil in 0 lies 0 thinks 0;".repeat(4) + "pupils", 1, 14 + 4 * 27);
        fault(w + "lesson bare 0;".repeat(5), 0, -1);
        fault(w + "lesson bare 0;".repeat(6), 3, 14 + 5 * 14);
        fault(w + "mark 0 99 ?", 2, 21);
        fault("wood placesz 3;", 1, 5);
        fault("awood places 3;", 1, 0);
        fault(w + "pupil in 0 lies 3 thinks 3;", 2, 39);
        fault(w + "lesson shut 0;?", 1, 27);
        fault(w + "way 0 n to 1 back 2;", 1, 32);
        fault(w + "mark 0 1:", 1, 22);
        fault(w + "mark 0 1/", 1, 22);
        fault(w + "mark 0 1;`", 1, 23);
        fault(w + "mark 0 1;{", 1, 23);
        fault(w + "mark 0 1;\r", 1, 23);
        fault(" ".repeat(1000), 0, -1);
        fault("z".repeat(1000), 1, 0);
        fault("wood places " + "0".repeat(985) + "10;", 0, -1);
        fault("wood places " + "0".repeat(985) + "110", 2, 12);
        fault("wood places " + "0".repeat(986) + "10", 1, 1000);
        fault("wood places 3" + " ".repeat(986) + ";", 0, -1);
    }

    private static void laterLinesStrike() {
        LostWood x = Support.wood("wood places 3; way 0 n to 1 back; way 1 s to 2; way 2 e to 2; way 0 w to 1;"
                + "way 1 e to 2 back; way 0 w to 0; mark 0 3; mark 0 4; mark 1 5; mark 1 0;");
        due("I one way", x.leads(0, 0), 1);
        due("I a later way strikes", x.leads(1, 2), 2);
        due("I to itself", x.leads(2, 1), 2);
        due("I a later way strikes", x.leads(0, 3), 0);
        due("I back", x.leads(2, 3), 1);
        due("I mark", x.mark(0), 4);
        due("I mark", x.mark(1), 0);
        due("61 ways elsewhere", x.count(1), 4);
        due("61 marks", x.count(2), 1);
    }

    private static void placesAndSets() {
        LostWood x = Support.wood(ROW);
        due("6 leads", x.leads(0, 1), 1);
        due("6 leads", x.leads(1, 3), 0);
        due("6 stays", x.leads(0, 0), 0);
        due("6 stays", x.leads(3, 1), 3);
        due("6 none", x.leads(4, 0), -2);
        due("6 none", x.leads(-1, 0), -2);
        due("6 none", x.leads(0, 4), -2);
        due("6 none", x.leads(0, -1), -2);
        due("7 mark", x.mark(0), 1);
        due("7 mark", x.mark(1), 0);
        due("7 mark", x.mark(3), 2);
        due("7 none", x.mark(4), -2);
        due("7 none", x.mark(-1), -2);
        due("8 becomes", x.becomes(0b0011, 1), 0b0110);
        due("8 becomes", x.becomes(0b1111, 1), 0b1110);
        due("8 becomes", x.becomes(0b1111, 3), 0b0111);
        due("8 becomes", x.becomes(0b1010, 0), 0b1010);
        due("8 none", x.becomes(0, 0), -2);
        due("8 none", x.becomes(16, 0), -2);
        due("8 none", x.becomes(-1, 0), -2);
        due("8 none", x.becomes(1, 4), -2);
        due("8 none", x.becomes(1, -1), -2);
        due("9 seen", x.seen(0b1111, 0), 0b0110);
        due("9 seen", x.seen(0b1101, 0), 0b0100);
        due("9 seen", x.seen(0b1111, 2), 0b1000);
        due("9 seen", x.seen(0b1111, 9), 0);
        due("9 none", x.seen(0b1111, 10), -2);
        due("9 none", x.seen(0b1111, -1), -2);
        due("9 none", x.seen(16, 0), -2);
        due("9 none", x.seen(0, 0), -2);
        due("9 none", x.seen(-1, 0), -2);
    }

    private static void pupils() {
        LostWood x = Support.wood(ROW);
        due("10 where", x.where(0), 0);
        due("10 where", x.where(1), 1);
        due("10 none", x.where(2), -2);
        due("10 none", x.where(-1), -2);
        due("11 thinks", x.thinks(0), 0b0011);
        due("11 thinks", x.thinks(1), 0b0110);
        due("11 none", x.thinks(2), -2);
        due("11 none", x.thinks(-1), -2);
        due("12 lies", x.pupil(0, 0), 0);
        due("12 lies", x.pupil(1, 0), 2);
        due("12 DOUBT", x.pupil(1, 1), 2);
        due("12 KNOWS", x.pupil(0, 2), 0);
        due("12 LOST", x.pupil(0, 3), 0);
        due("12 none", x.pupil(0, 4), -2);
        due("12 none", x.pupil(0, -1), -2);
        due("12 none", x.pupil(2, 0), -2);
        due("12 none", x.pupil(-1, 0), -2);
        due("14 most", x.most(), 0b11);
        due("15 KNOW", x.who(0), 0);
        due("15 LOST", x.who(1), 0);
        due("15 none", x.who(2), -2);
        due("15 none", x.who(-1), -2);

        LostWood y = Support.wood("wood places 3; pupil in 0 lies 0 thinks 1; pupil in 1 lies 0 thinks 1 1;"
                + "pupil in 2 lies 3 thinks 2 0 2; pupil in 2 lies 1 thinks 0 1;");
        due("14 most", y.most(), 0b1100);
        due("15 KNOW", y.who(0), 0b0010);
        due("15 LOST", y.who(1), 0b1001);
        due("12 KNOWS", y.pupil(1, 2), 1);
        due("12 KNOWS not elsewhere", y.pupil(0, 2), 0);
        due("12 LOST", y.pupil(0, 3), 1);
        due("12 LOST", y.pupil(2, 3), 0);
        due("12 DOUBT", y.pupil(2, 1), 2);
        due("11 like ones count once", y.thinks(1), 0b010);

        LostWood z = Support.wood("wood places 2;");
        due("14 no PUPILS", z.most(), 0);
        due("15 no PUPILS", z.who(0), 0);
        due("15 no PUPILS", z.who(1), 0);
        due("10 no PUPILS", z.where(0), -2);
    }

    private static void steps() {
        LostWood x = Support.wood(ROW);
        due("13 none", x.goes(2, 0), -2);
        due("13 none", x.goes(-1, 0), -2);
        due("13 none", x.goes(0, 4), -2);
        due("13 none", x.goes(0, -1), -2);
        due("16 none", x.undo(), -5);
        due("17 none", x.anew(), 0);
        // Both 1 and 2 may be east of 0 or 1, and show no mark.
        due("13 goes", x.goes(0, 1), 1);
        due("III thinks", x.thinks(0), 0b0110);
        due("13 goes", x.goes(0, 1), 2);
        due("III SEEN", x.thinks(0), 0b0100);
        due("III KNOWS", x.pupil(0, 2), 1);
        // Its compass lies by 2: told east it goes west to 0, thinks 2 or 3, sees mark 1: all with it.
        due("13 lies", x.goes(1, 1), 0);
        due("III empty: all with that mark", x.thinks(1), 0b0001);
        due("15 KNOW", x.who(0), 0b11);
        due("61 STEPS", x.count(7), 3);
        // Told north it goes south, and stays.
        due("13 stays", x.goes(1, 0), 0);
        // Told west it goes east to 1, thinks to stay in 0, sees no mark: 1 or 2.
        due("13 goes", x.goes(1, 3), 1);
        due("III thinks", x.thinks(1), 0b0110);
        due("14 most", x.most(), 0b10);
        due("16 undo", x.undo(), 4);
        due("16 undone", x.where(1), 0);
        due("16 undone", x.thinks(1), 0b0001);
        due("16 undo", x.undo(), 3);
        due("16 undo", x.undo(), 2);
        due("16 undone", x.where(1), 1);
        due("16 undone", x.thinks(1), 0b0110);
        due("16 others stay", x.where(0), 2);
        due("16 undo", x.undo(), 1);
        due("16 undone", x.where(0), 1);
        due("16 undone", x.thinks(0), 0b0110);
        due("13 goes", x.goes(1, 1), 0);
        due("17 anew", x.anew(), 2);
        due("17 where", x.where(0), 0);
        due("17 thinks", x.thinks(0), 0b0011);
        due("17 where", x.where(1), 1);
        due("17 thinks", x.thinks(1), 0b0110);
        due("17 none", x.anew(), 0);
        due("16 none", x.undo(), -5);
        due("13 to be LOST", x.goes(1, 3), 2);
        // Thinks 0 or 1, sees no mark: 1 alone, but is in 2.
        due("III LOST", x.pupil(1, 3), 1);
        due("15 LOST", x.who(1), 0b10);
    }

    private static void stepLimit() {
        LostWood x = Support.wood(ROW);
        for (int i = 0; i < 60; i++) {
            due("13 goes", x.goes(i % 2, 0), i % 2);
        }
        due("13 there were 60", x.goes(0, 1), -5);
        due("13 there were 60", x.goes(1, 1), -5);
        due("13 none", x.goes(2, 1), -2);
        due("13 stays", x.where(0), 0);
        due("61 STEPS", x.count(7), 60);
        due("16 undo", x.undo(), 59);
        due("13 goes", x.goes(0, 1), 1);
        due("13 there were 60", x.goes(0, 1), -5);
        due("17 anew", x.anew(), 60);
        due("13 goes", x.goes(0, 1), 1);
    }

    private static void walks() {
        LostWood x = Support.wood(ROW);
        due("18 nothing", x.would(0, 0), -6);
        due("18 none", x.would(4, 0), -2);
        due("18 none", x.would(-1, 0), -2);
        due("18 none, ahead of nothing", x.would(0, 2), -2);
        due("18 none, ahead of nothing", x.would(0, -1), -2);
        due("19 nothing", x.think(0, 0), -6);
        due("20 nothing", x.knows(0, 0), -6);
        due("21 nothing", x.loses(0, 0), -6);
        due("22 nothing", x.doubts(0, 0), -6);
        Support.fill(x, 0, 1, 1, 1);
        due("18 would", x.would(0, 0), 3);
        due("19 think", x.think(0, 0), 0b1000);
        due("20 knows", x.knows(0, 0), 2);
        due("21 loses", x.loses(0, 0), -1);
        due("22 doubts", x.doubts(0, 0), 2);
        due("18 would", x.would(0, 1), 0);
        due("20 knows", x.knows(0, 1), 1);
        Support.fill(x, 1, 3, 3);
        due("21 loses", x.loses(1, 1), 1);
        due("18 would", x.would(1, 1), 3);
        // It thinks to be in 0 then, which does not show mark 2: so in 3 alone.
        due("19 think", x.think(1, 1), 0b1000);
        due("20 behind the last", x.knows(1, 1), 2);
        Support.fill(x, 1, 3, 0);
        due("20 never", x.knows(1, 1), -1);
        due("61 nobody has gone", x.count(7), 0);
        x.goes(0, 1);
        x.goes(0, 1);
        due("20 now", x.knows(0, 0), 0);
        due("18 from now on", x.would(0, 0), 3);
        Support.fill(x, 2);
        due("18 no STEPS", x.would(2, 0), 2);
        due("19 no STEPS", x.think(2, 0), 0b0100);
        due("20 no STEPS", x.knows(2, 0), 0);
        due("21 no STEPS", x.loses(2, 0), -1);
        due("22 no STEPS", x.doubts(2, 1), 2);
        Support.fill(x, 3, 1, 4);
        due("18 no WIND", x.would(3, 0), -2);
        due("19 no WIND", x.think(3, 0), -2);
        due("20 no WIND, though it KNOWS now", x.knows(3, 0), -2);
        due("21 no WIND", x.loses(3, 0), -2);
        due("22 no WIND", x.doubts(3, 0), -2);
        x.write(3, 1, -1);
        due("18 no WIND", x.would(3, 0), -2);
        x.row(3, 3, 1);
        x.write(3, 0, 1L << 32);
        due("18 no WIND of 8 bytes", x.would(3, 0), -2);

        LostWood y = Support.wood("wood places 3; pupil in 0 lies 0 thinks 1 2; pupil in 0 lies 0 thinks 0 1 2;"
                + "mark 1 1; mark 2 1;");
        Support.fill(y, 0, 0);
        due("21 LOST now", y.loses(0, 0), 0);
        due("22 DOUBT now too", y.doubts(0, 0), 2);
        due("22 DOUBT now too", y.doubts(0, 1), 3);
        due("20 knows", y.knows(0, 0), 1);
    }

    private static void firstWalks() {
        LostWood x = Support.wood(ROW);
        due("23 blur", x.blur(0, 1), 0);
        due("23 blur", x.blur(0, 2), 0);
        due("23 never", x.blur(0, 3), -1);
        due("23 never", x.blur(0, Integer.MAX_VALUE), -1);
        due("23 none", x.blur(0, 0), -2);
        due("23 none", x.blur(2, 1), -2);
        due("23 none", x.blur(-1, 1), -2);
        due("24 none such", x.blurs(0, 1, 0), -1);
        due("24 none", x.blurs(0, 0, 0), -2);
        due("24 none", x.blurs(2, 1, 0), -2);
        due("24 none", x.blurs(0, 3, 0), -1);
        x.goes(0, 0);
        due("III staying", x.thinks(0), 0b0001);
        // From 0 it KNOWS whatever it does but north-south-east-west alike: to 1 and it still KNOWS.
        due("23 never", x.blur(0, 2), -1);
        due("25 never", x.stray(0), -1);
        due("26 never", x.strays(0, 0), -1);
        due("29 states", x.states(0), 4);
        // The other is LOST if told west: 0 or 1 by what it thinks, but 2.
        due("25 stray", x.stray(1), 1);
        due("26 strays", x.strays(1, 0), 3);
        due("26 none such", x.strays(1, 1), -1);
        due("26 none such", x.strays(1, -1), -1);
        due("25 none", x.stray(2), -2);
        due("26 none", x.strays(2, 0), -2);
        // Told east it comes to 0, the mark tells.
        due("27 home", x.home(1), 1);
        due("28 homes", x.homes(1, 0), 1);
        due("28 none such", x.homes(1, 1), -1);
        due("28 none such", x.homes(1, -1), -1);
        due("27 KNOWS now", x.home(0), 0);
        due("28 none such", x.homes(0, 0), -1);
        due("27 none", x.home(2), -2);
        due("28 none", x.homes(-1, 0), -2);
        due("29 none", x.states(2), -2);
        due("29 none", x.states(-1), -2);

        LostWood y = Support.wood("wood places 6; way 0 s to 1; way 1 w to 2; way 2 n to 3; way 2 e to 3; mark 3 1;"
                + "pupil in 0 lies 0 thinks 0 1 2 4; pupil in 4 lies 0 thinks 4 5;");
        // Only in 3 a mark is seen; s, w, then n is less than e.
        due("27 home", y.home(0), 3);
        due("28 homes", y.homes(0, 0), 2);
        due("28 homes", y.homes(0, 1), 3);
        due("28 homes", y.homes(0, 2), 0);
        due("28 none such", y.homes(0, 3), -1);
        due("27 never", y.home(1), -1);
        due("28 never", y.homes(1, 0), -1);

        LostWood z = Support.wood("wood places 3; way 0 e to 1; way 1 e to 2; mark 2 1; pupil in 0 lies 2 thinks 1;");
        // Told east it stays in 0, by its mark neither 2: all without a mark, 0 and 1.
        due("23 blur", z.blur(0, 2), 1);
        due("24 blurs", z.blurs(0, 2, 0), 1);
        due("24 none such", z.blurs(0, 2, 1), -1);
        due("25 LOST now", z.stray(0), 0);
        due("26 none such", z.strays(0, 0), -1);
        due("29 states", z.states(0), 5);
    }

    private static void plans() {
        LostWood x = Support.wood(ROW);
        due("30 alone", x.plan(1), 0);
        due("30 by the first mark", x.plan(0b1001), 0);
        due("30 one step", x.plan(0b0110), 1);
        due("30 all", x.plan(0b1111), 1);
        due("30 none", x.plan(0), -2);
        due("30 none", x.plan(16), -2);
        due("30 none", x.plan(-1), -2);
        due("31 first", x.first(0b0110), 1);
        due("31 none is needed", x.first(1), -1);
        due("31 unlike marks", x.first(0b0111), -1);
        due("31 none", x.first(0), -2);
        due("31 none", x.first(16), -2);
        due("32 hardest", x.hardest(), 1);

        LostWood y = Support.wood("wood places 3; way 0 e to 1; way 1 e to 0; mark 2 1;");
        due("30 there is none", y.plan(0b011), -1);
        due("31 there is none", y.first(0b011), -1);
        due("30 there is none", y.plan(0b111), -1);
        due("30 by the mark", y.plan(0b101), 0);
        due("32 of which there is one", y.hardest(), 0);

        LostWood z = Support.wood("wood places 2; way 0 e to 1; way 1 e to 0;");
        due("32 there is none", z.hardest(), -1);
        z.lead(0, 2, 1);
        due("30 as made otherwise", z.plan(0b11), 1);
        due("31 as made otherwise", z.first(0b11), 2);
        due("32 as made otherwise", z.hardest(), 1);
        z.marks(0, 1);
        due("30 as marked otherwise", z.plan(0b11), 0);
        due("32 as marked otherwise", z.hardest(), 0);

        LostWood u = Support.wood("wood places 6; way 0 s to 1; way 1 s to 2; way 2 s to 3; way 3 s to 4; mark 4 1;");
        // From 0 or 1: behind three STEPS the mark tells.
        due("30 deeper", u.plan(0b000011), 3);
        due("31 deeper", u.first(0b000011), 2);
        due("30 deeper", u.plan(0b000111), 3);
        due("30 deeper", u.plan(0b001111), 3);
        due("30 with one that stays", u.plan(0b100001), 4);
        due("32 deeper", u.hardest(), 4);

        // By the mark seen at first one goes on otherwise.
        LostWood v = Support.wood("wood places 6; mark 0 1; mark 1 1; mark 2 2; mark 3 2; mark 4 3; mark 5 4;"
                + "way 0 n to 4; way 2 w to 4; way 3 w to 5; way 2 n to 3; way 3 n to 2;");
        due("30 told by the marks", v.plan(0b001111), 1);
        due("31 of one mark", v.first(0b000011), 0);
        due("31 of the other", v.first(0b001100), 3);
    }

    private static void alike() {
        LostWood x = Support.wood("wood places 4; way 0 n to 1; way 2 n to 3; way 3 n to 1;");
        due("33 alike", x.alike(0, 2), 1);
        due("34 kinds", x.kinds(), 1);
        due("35 ALIKE", x.tells(0, 2), -1);
        due("36 ALIKE", x.told(0, 2, 0), -1);
        x.marks(1, 7);
        due("33 unlike by a WALK", x.alike(0, 2), 0);
        due("33 alike", x.alike(0, 3), 1);
        due("33 itself", x.alike(2, 2), 1);
        due("33 by none", x.alike(0, 1), 0);
        due("34 kinds", x.kinds(), 3);
        due("35 tells", x.tells(0, 2), 1);
        due("36 told", x.told(0, 2, 0), 0);
        due("36 none such", x.told(0, 2, 1), -1);
        due("36 none such", x.told(0, 2, -1), -1);
        due("35 at once", x.tells(0, 1), 0);
        due("36 at once", x.told(0, 1, 0), -1);
        due("35 itself", x.tells(3, 3), -1);
        due("33 none", x.alike(0, 4), -2);
        due("33 none", x.alike(-1, 0), -2);
        due("35 none", x.tells(4, 0), -2);
        due("35 none", x.tells(0, -1), -2);
        due("36 none", x.told(0, 4, 0), -2);
        due("36 none", x.told(4, 0, 0), -2);

        LostWood y = Support.wood(ROW);
        due("35 east less than west", y.tells(1, 2), 1);
        due("36 east less than west", y.told(1, 2, 0), 1);
        due("34 kinds", y.kinds(), 4);

        LostWood z = Support.wood("wood places 6; way 0 s to 1; way 1 w to 2; way 3 s to 4; way 4 w to 5; mark 5 1;");
        due("35 two", z.tells(3, 0), 2);
        due("36 two", z.told(3, 0, 0), 2);
        due("36 two", z.told(0, 3, 1), 3);
        due("36 none such", z.told(0, 3, 2), -1);
    }

    private static void bare() {
        LostWood x = Support.wood(ROW);
        due("37 both ends", x.bares(1, 2), 2);
        due("38 both ends", x.bared(1, 2), 0b1001);
        due("37 both ends", x.bares(0, 1), 2);
        due("37 itself", x.bares(0, 0), 0);
        due("38 itself", x.bared(0, 0), 0);
        due("37 none", x.bares(4, 0), -2);
        due("37 none", x.bares(0, -1), -2);
        due("38 none", x.bared(0, 4), -2);
        due("38 none", x.bared(-1, 0), -2);

        LostWood y = Support.wood("wood places 5; mark 0 1; mark 1 2; mark 2 1; mark 3 0; mark 4 5;");
        due("37 both", y.bares(0, 1), 2);
        due("38 both", y.bared(0, 1), 0b00011);
        due("37 ALIKE already", y.bares(0, 2), 0);
        due("37 one", y.bares(0, 3), 1);
        due("38 one", y.bared(3, 2), 0b00100);

        // 0 and 1 differ behind n (2 against 3) only: the marks of both must go, not that of 4.
        LostWood z = Support.wood("wood places 5; way 0 n to 2; way 1 n to 3; mark 2 1; mark 3 2; mark 4 3;");
        due("37 behind a WALK", z.bares(0, 1), 2);
        due("38 behind a WALK", z.bared(0, 1), 0b01100);
        z.marks(3, 0);
        due("38 behind a WALK", z.bared(0, 1), 0b00100);
        due("7 all stays", z.mark(2), 1);
    }

    private static void gather() {
        LostWood x = Support.wood(ROW);
        due("39 gather", x.gather(0b1111), 3);
        due("40 gathers", x.gathers(0b1111, 0), 1);
        due("40 gathers", x.gathers(0b1111, 2), 1);
        due("40 none such", x.gathers(0b1111, 3), -1);
        due("40 none such", x.gathers(0b1111, -1), -1);
        due("41 by the west", x.roundabout(0b1111), 0);
        due("39 gather", x.gather(0b1100), 1);
        due("40 gathers", x.gathers(0b1100, 0), 1);
        due("41 roundabout", x.roundabout(0b1100), 3);
        due("39 alone", x.gather(0b0100), 0);
        due("40 alone", x.gathers(0b0100, 0), -1);
        due("41 alone", x.roundabout(0b0100), 2);
        due("39 none", x.gather(0), -2);
        due("39 none", x.gather(16), -2);
        due("40 none", x.gathers(0, 0), -2);
        due("40 none", x.gathers(-1, 0), -2);
        due("41 none", x.roundabout(0), -2);
        due("41 none", x.roundabout(16), -2);

        LostWood y = Support.wood("wood places 3; way 0 n to 1; way 1 n to 0; way 2 e to 2;");
        due("39 there is none", y.gather(0b011), -1);
        due("40 there is none", y.gathers(0b011, 0), -1);
        due("41 there is none", y.roundabout(0b011), -1);
    }

    private static void meet() {
        LostWood x = Support.wood(ROW);
        // 0 waits once (north), 3 goes west; then 0 east: 1 each ... 0 to 1, 3 to 2, then 2 to 1 and 1 waits.
        due("42 meet", x.meet(0, 3), 2);
        due("43 met", x.met(0, 3), 1);
        due("42 meet", x.meet(0, 2), 1);
        due("43 met", x.met(0, 2), 1);
        due("42 one", x.meet(1, 1), 0);
        due("43 one", x.met(1, 1), 1);
        due("42 none", x.meet(4, 0), -2);
        due("42 none", x.meet(0, -1), -2);
        due("43 none", x.met(0, 4), -2);
        due("43 none", x.met(-1, 0), -2);
        // Nobody can wait in a ring of two.
        LostWood y = Support.wood("wood places 2; way 0 n to 1 back; way 0 e to 1 back; way 0 s to 1 back; way 0 w to 1 back;");
        due("42 never", y.meet(0, 1), -1);
        due("43 never", y.met(0, 1), -1);
    }

    private static void readings() {
        LostWood x = Support.wood(ROW);
        due("44 nothing", x.read(0), -6);
        due("45 nothing", x.began(0), -6);
        due("46 nothing", x.ask(0), -6);
        due("47 nothing", x.leaves(0), -6);
        due("44 none", x.read(4), -2);
        due("45 none", x.began(-1), -2);
        due("46 none", x.ask(4), -2);
        due("47 none", x.leaves(4), -2);
        Support.fill(x, 0);
        due("44 from any", x.read(0), 0b1111);
        due("45 from any", x.began(0), 0b1111);
        // Northward two show no mark; eastward 1, 2, 3, 3; westward 0, 0, 1, 2: north leaves 2, east 2.
        due("46 the least", x.ask(0), 0);
        due("47 leaves", x.leaves(0), 2);
        Support.fill(x, 1, 4, 0);
        due("44 stayed", x.read(1), 0b0110);
        due("45 stayed", x.began(1), 0b0110);
        due("46 ask", x.ask(1), 1);
        due("47 leaves", x.leaves(1), 1);
        Support.fill(x, 1, 1, 0);
        due("44 went", x.read(1), 0b0110);
        due("45 went", x.began(1), 0b0011);
        Support.fill(x, 1, 4, 0, 1, 2);
        due("44 two", x.read(1), 0b1000);
        due("45 two", x.began(1), 0b0100);
        due("46 all alike", x.ask(1), 0);
        Support.fill(x, 2, 4, 9);
        due("44 nowhere", x.read(2), 0);
        due("45 nowhere", x.began(2), 0);
        due("46 nowhere", x.ask(2), 0);
        due("47 nowhere", x.leaves(2), 0);
        Support.fill(x, 3, 5, 0);
        due("44 no WIND", x.read(3), -2);
        due("45 no WIND", x.began(3), -2);
        due("46 no WIND", x.ask(3), -2);
        due("47 no WIND", x.leaves(3), -2);
        Support.fill(x, 3, 0, 10);
        due("44 no mark", x.read(3), -2);
        Support.fill(x, 3, 0, -1);
        due("44 no mark", x.read(3), -2);
        Support.fill(x, 3, 0, 1, 2);
        due("44 not two each", x.read(3), -2);
        due("45 not two each", x.began(3), -2);
        due("46 not two each", x.ask(3), -2);
        due("47 not two each", x.leaves(3), -2);
        LostWood y = new LostWood();
        due("44 no WOOD, ahead of nothing", y.read(0), -2);
    }

    private static void courses() {
        LostWood x = Support.wood(ROW);
        due("48 nothing", x.course(0, 0), -6);
        due("49 nothing", x.lesson(0, 0, 0), -6);
        due("50 nothing", x.spoilt(0, 0), -6);
        due("48 none", x.course(4, 0), -2);
        due("49 none", x.lesson(0, 2, 0), -2);
        due("50 none", x.spoilt(-1, 0), -2);
        Support.fill(x, 1, 1, 4);
        due("48 no WIND", x.course(1, 0), -2);
        due("49 no WIND", x.lesson(1, 0, 0), -2);
        due("50 no WIND", x.spoilt(1, 0), -2);

        LostWood y = Support.wood("wood places 3; way 0 e to 1; mark 1 1; pupil in 0 lies 0 thinks 0 2;"
                + "lesson bare 1; lesson shut 0 e;");
        Support.fill(y, 0, 1);
        // bare first: to 1 without a mark, thinks 1, 2; then east: 1, 2 stay. DOUBT 2.
        // shut first: stays in 0, thinks 0, 2; then bare: stays, 0, 2. DOUBT 2.
        due("48 course", y.course(0, 0), 2);
        due("49 the least row", y.lesson(0, 0, 0), 0);
        due("49 the least row", y.lesson(0, 0, 1), 1);
        due("49 none such", y.lesson(0, 0, 2), -1);
        due("49 none such", y.lesson(0, 0, -1), -1);
        due("50 spoilt", y.spoilt(0, 0), 2);
        due("VII all is as ahead", y.mark(1), 1);
        due("VII all is as ahead", y.leads(0, 1), 1);
        due("VII all is as ahead", y.where(0), 0);

        LostWood z = Support.wood("wood places 3; way 0 e to 1; mark 1 1; pupil in 0 lies 0 thinks 0 2;"
                + "lesson lies 1; lesson bare 1;");
        Support.fill(z, 0, 1);
        // lies first: goes south, stays in 0, thinks 1, 2, sees none: 2; then bare: 2 again. DOUBT 1.
        // bare first: goes to 1, thinks 1, 2; then lies: stays in 1, thinks 1, 2. DOUBT 2.
        due("48 the most", z.course(0, 0), 2);
        due("49 bare first", z.lesson(0, 0, 0), 1);
        due("49 then lies", z.lesson(0, 0, 1), 0);
        due("50 the least", z.spoilt(0, 0), 1);
        due("VII all is as ahead", z.pupil(0, 0), 0);

        LostWood u = Support.wood("wood places 3; pupil in 0 lies 0 thinks 0 1 2;");
        Support.fill(u, 0, 1);
        due("48 no LESSONS", u.course(0, 0), 3);
        due("49 no LESSONS", u.lesson(0, 0, 0), -1);
        due("50 no LESSONS", u.spoilt(0, 0), 3);
    }

    private static void ways() {
        LostWood x = Support.wood(ROW);
        due("51 route", x.route(0, 3), 3);
        due("51 route", x.route(3, 0), 3);
        due("51 itself", x.route(2, 2), 0);
        due("51 none", x.route(4, 0), -2);
        due("51 none", x.route(0, -1), -2);
        due("52 dark", x.dark(0, 3), 2);
        due("52 dark", x.dark(1, 3), 1);
        due("52 dark", x.dark(2, 1), 1);
        due("52 itself", x.dark(1, 1), 0);
        due("53 detour", x.detour(0, 3), 3);
        due("53 itself", x.detour(1, 1), 0);
        due("52 none", x.dark(0, 4), -2);
        due("52 none", x.dark(-1, 0), -2);
        due("53 none", x.detour(4, 0), -2);
        due("53 none", x.detour(0, -1), -2);

        LostWood y = Support.wood("wood places 7; way 0 n to 1; way 1 n to 2; way 0 e to 3; way 3 e to 4; way 4 e to 5;"
                + "way 5 e to 2; way 0 s to 3; way 3 s to 5; mark 3 1; mark 4 1; mark 5 1; mark 2 1;");
        due("51 the shortest", y.route(0, 2), 2);
        due("52 whatever its length", y.dark(0, 2), 0);
        due("53 fewest steps with so few", y.detour(0, 2), 3);
        due("51 there is none", y.route(2, 0), -1);
        due("52 there is none", y.dark(2, 6), -1);
        due("53 there is none", y.detour(6, 0), -1);
    }

    private static void fog() {
        LostWood x = Support.wood(ROW);
        due("54 above", x.fog(0, 0, 1, 0), 3);
        due("54 below", x.fog(0, 0, 1, 1), 4);
        due("54 above", x.fog(0, 1, 1, 0), 1);
        due("54 below", x.fog(0, 1, 1, 1), 4);
        // 9 of 16, and one back from 1.
        due("54 lowest terms", x.fog(0, 0, 2, 0), 5);
        due("54 lowest terms", x.fog(0, 0, 2, 1), 8);
        due("54 none", x.fog(0, 3, 2, 0), 0);
        due("54 none", x.fog(0, 3, 2, 1), 1);
        due("54 no steps", x.fog(2, 2, 0, 0), 1);
        due("54 no steps", x.fog(2, 2, 0, 1), 1);
        due("54 no steps", x.fog(2, 1, 0, 0), 0);
        due("54 none such", x.fog(0, 0, 16, 0), -2);
        due("54 none such", x.fog(0, 0, -1, 0), -2);
        due("54 none such", x.fog(0, 0, 1, 2), -2);
        due("54 none such", x.fog(0, 0, 1, -1), -2);
        due("54 none such", x.fog(4, 0, 1, 0), -2);
        due("54 none such", x.fog(0, 4, 1, 0), -2);
        due("55 likely", x.likely(0, 1), 0);
        due("55 likely", x.likely(2, 0), 2);
        due("55 none such", x.likely(4, 0), -2);
        due("55 none such", x.likely(0, 16), -2);
        due("55 none such", x.likely(0, -1), -2);
        due("56 can", x.can(0, 2), 0b0111);
        due("56 can", x.can(3, 0), 0b1000);
        due("56 none such", x.can(4, 0), -2);
        due("56 none such", x.can(0, 16), -2);
        due("56 none such", x.can(0, -1), -2);

        LostWood y = Support.wood("wood places 2; way 0 n to 1;");
        // 3 to the 15th of 4 to the 15th stays.
        due("54 fifteen", y.fog(0, 0, 15, 0), 14348907);
        due("54 fifteen", y.fog(0, 0, 15, 1), 1073741824);
        due("54 fifteen", y.fog(0, 1, 15, 0), 1073741824 - 14348907);
        due("54 surely", y.fog(1, 1, 15, 0), 1);
        due("54 surely", y.fog(1, 1, 15, 1), 1);
        due("55 fifteen", y.likely(0, 15), 1);
        due("56 fifteen", y.can(0, 15), 0b11);
        LostWood z = Support.wood("wood places 3; way 2 n to 0; way 2 s to 1; way 2 e to 0; way 2 w to 1;");
        due("55 the first of several", z.likely(2, 1), 0);
        due("56 not where one was", z.can(2, 1), 0b011);
    }

    private static void changes() {
        LostWood x = Support.wood(ROW);
        due("57 lead", x.lead(0, 0, 3), 0);
        due("57 leads", x.leads(0, 0), 3);
        due("57 one way", x.leads(3, 2), 3);
        due("57 lead", x.lead(0, 0, 0), 3);
        due("57 none does", x.leads(0, 0), 0);
        due("57 ways", x.count(1), 6);
        due("57 none such", x.lead(4, 0, 0), -2);
        due("57 none such", x.lead(0, 4, 0), -2);
        due("57 none such", x.lead(0, 0, 4), -2);
        due("57 none such", x.lead(-1, 0, 0), -2);
        due("57 none such", x.lead(0, -1, 0), -2);
        due("57 none such", x.lead(0, 0, -1), -2);
        due("58 marks", x.marks(0, 9), 1);
        due("58 mark", x.mark(0), 9);
        due("58 none such", x.marks(0, 10), -2);
        due("58 none such", x.marks(0, -1), -2);
        due("58 none such", x.marks(4, 0), -2);
        due("58 none such", x.marks(-1, 0), -2);
        x.goes(0, 0);
        due("57 one has gone", x.lead(0, 0, 1), -5);
        due("58 one has gone", x.marks(0, 1), -5);
        due("57 stays", x.leads(0, 0), 0);
        due("58 stays", x.mark(0), 9);
        due("16 undo", x.undo(), 0);
        due("57 taken back", x.lead(0, 0, 1), 0);
        due("58 taken back", x.marks(0, 0), 9);
        due("61 marks", x.count(2), 1);
    }

    private static void draws() {
        // Of seed 0: 12345 (0), then 1406932606 (21468: 0), then 654583775 (9988: 0), 1449466924 (22117: 1), ..
        LostWood x = Support.wood("wood places 5; way 0 n to 1; way 1 n to 2; way 2 n to 3; way 3 e to 4; way 3 n to 0;"
                + "mark 4 1; pupil in 0 lies 0 thinks 0; pupil in 0 lies 0 thinks 0 1 2;");
        due("59 none yet", x.drawn(0, 0, 0, 0), 0);
        due("59 none yet", x.drawn(0, 0, 0, 1), 1);
        due("59 none yet", x.drawn(0, 0, 0, 2), 1);
        due("59 one", x.drawn(0, 0, 1, 0), 1);
        due("59 three", x.drawn(0, 0, 3, 0), 3);
        due("59 four", x.drawn(0, 0, 4, 0), 4);
        due("59 thinks", x.drawn(0, 0, 4, 1), 0b10000);
        due("59 how often", x.drawn(0, 0, 4, 2), 5);
        due("59 how often", x.drawn(0, 1, 4, 2), 1);
        due("59 thinks", x.drawn(0, 1, 2, 1), 0b01101 & 0b01111);
        due("59 none such", x.drawn(-1, 0, 0, 0), -2);
        due("59 none such", x.drawn(2000000001, 0, 0, 0), -2);
        due("59 a great seed", x.drawn(2000000000, 0, 0, 0), 0);
        due("59 none such", x.drawn(0, 2, 0, 0), -2);
        due("59 none such", x.drawn(0, -1, 0, 0), -2);
        due("59 none such", x.drawn(0, 0, 41, 0), -2);
        due("59 none such", x.drawn(0, 0, -1, 0), -2);
        due("59 none such", x.drawn(0, 0, 0, 3), -2);
        due("59 none such", x.drawn(0, 0, 0, -1), -2);
        due("60 all", x.luck(0, 20, 0, 0), 20);
        due("60 none", x.luck(0, 20, 1, 0), 0);
        due("60 all", x.luck(2000000000, 20, 0, 40), 20);
        int sum = 0;
        for (int seed = 7; seed < 19; seed++) {
            sum += x.drawn(seed, 1, 9, 1) == 1 << x.drawn(seed, 1, 9, 0) ? 1 : 0;
        }
        due("60 luck", x.luck(7, 12, 1, 9), sum);
        due("60 none such", x.luck(-1, 1, 0, 0), -2);
        due("60 none such", x.luck(2000000001, 1, 0, 0), -2);
        due("60 none such", x.luck(0, 0, 0, 0), -2);
        due("60 none such", x.luck(0, 21, 0, 0), -2);
        due("60 none such", x.luck(0, 1, 2, 0), -2);
        due("60 none such", x.luck(0, 1, -1, 0), -2);
        due("60 none such", x.luck(0, 1, 0, 41), -2);
        due("60 none such", x.luck(0, 1, 0, -1), -2);
        due("59 nobody has gone", x.count(7), 0);
    }

    private static void counts() {
        LostWood x = Support.wood(ROW);
        x.feed(0, 0, 0, 0, 0);
        x.row(1, 0, 0);
        x.row(3, 2, 60);
        x.goes(0, 1);
        int[] want = {4, 6, 2, 2, 3, 11, 20, 1, 2};
        for (int what = 0; what < want.length; what++) {
            due("61 count(" + what + ")", x.count(what), want[what]);
        }
        due("61 others", x.count(9), -1);
        due("61 others", x.count(-1), -1);
    }

    private static void images() {
        LostWood x = new LostWood();
        due("62 none such", x.image(3), -2);
        due("62 none such", x.image(-1), -2);
        due("63 none such", x.back(3), -2);
        due("63 none such", x.back(-1), -2);
        due("63 nothing", x.back(2), -6);
        due("62 image without a WOOD", x.image(2), 0);
        Support.tell(x, ROW);
        x.wood();
        x.goes(0, 1);
        x.goes(1, 1);
        due("62 image", x.image(0), 0);
        due("63 nothing", x.back(1), -6);
        x.goes(0, 1);
        x.anew();
        x.lead(0, 0, 3);
        x.marks(1, 5);
        due("30 of the other WOOD", x.plan(0b0110), 0);
        due("62 image", x.image(1), 0);
        x.row(0, 0, 1);
        x.feed(0, 0, 0, 0, 0);
        due("63 back", x.back(0), 0);
        due("63 WOOD", x.leads(0, 0), 0);
        due("63 WOOD", x.mark(1), 0);
        due("63 plan", x.plan(0b0110), 1);
        due("63 STEPS", x.count(7), 2);
        due("63 where", x.where(0), 1);
        due("63 thinks", x.thinks(0), 0b0110);
        due("63 where", x.where(1), 0);
        due("63 SLOTS stay", x.count(8), 1);
        due("63 TAPE stays", x.count(6), 20);
        due("63 one has gone", x.lead(0, 0, 3), -5);
        due("16 undo", x.undo(), 1);
        due("16 undone", x.where(1), 1);
        due("16 undone", x.thinks(1), 0b0110);
        due("16 undo", x.undo(), 0);
        due("16 undone", x.thinks(0), 0b0011);
        due("63 again", x.back(0), 0);
        due("63 as kept", x.count(7), 2);
        due("63 the other", x.back(1), 0);
        due("63 the other", x.leads(0, 0), 3);
        due("63 the other", x.mark(1), 5);
        due("63 the other", x.count(7), 0);
        due("63 none", x.back(2), 0);
        due("63 no WOOD", x.most(), -2);
        due("63 no LINES", x.count(5), 0);
        due("62 in place of another", x.image(1), 0);
        due("63 back", x.back(0), 0);
        due("63 LINES", x.count(5), 11);
        due("63 back", x.back(1), 0);
        due("63 no WOOD", x.undo(), -2);
    }

    private static void slots() {
        LostWood x = Support.wood(ROW);
        due("64 none such", x.row(4, 0, 1), -2);
        due("64 none such", x.row(-1, 0, 1), -2);
        due("64 none such", x.row(0, 4, 1), -2);
        due("64 none such", x.row(0, -1, 1), -2);
        due("64 none such", x.row(0, 0, 61), -2);
        due("64 below 0", x.row(0, 0, -1), -3);
        due("64 none such ahead of below 0", x.row(4, 0, -1), -2);
        due("65 nothing", x.write(0, 0, 0), -6);
        due("65 none such", x.write(4, 0, 0), -2);
        due("65 none such", x.write(-1, 0, 0), -2);
        due("64 row", x.row(0, 0, 2), 0);
        due("64 all 0", x.would(0, 0), 0);
        due("65 write", x.write(0, 0, 257), 0);
        due("65 cut to one byte", x.would(0, 0), 1);
        due("65 beyond", x.write(0, 2, 0), -7);
        due("65 beyond", x.write(0, -1, 0), -7);
        due("64 below 0, and stays", x.row(0, 1, -1), -3);
        due("64 stays", x.would(0, 0), 1);
        due("64 row", x.row(0, 0, 2), 0);
        due("64 all 0 again", x.would(0, 0), 0);
        due("64 row", x.row(1, 1, 1), 0);
        x.write(1, 0, 65537L);
        due("65 cut to two bytes", x.would(1, 0), 1);
        x.write(1, 0, 257L);
        due("65 not to one", x.would(1, 0), -2);
        due("64 row", x.row(2, 2, 1), 0);
        x.write(2, 0, (1L << 32) + 1);
        due("65 cut to four bytes", x.would(2, 0), 1);
        x.write(2, 0, 65537L);
        due("65 not to two", x.would(2, 0), -2);
        due("64 row", x.row(3, 3, 60), 0);
        x.write(3, 59, (1L << 32) + 1);
        due("65 not to four", x.would(3, 0), -2);
        x.write(3, 59, 1);
        due("65 the last", x.would(3, 0), 1);
        due("65 beyond", x.write(3, 60, 1), -7);
    }

    private static void paste() {
        LostWood x = Support.wood(ROW);
        due("66 none such", x.paste(4, 0, 0, 0, 0), -2);
        due("66 none such", x.paste(0, 0, -1, 0, 0), -2);
        due("66 nothing", x.paste(0, 0, 1, 0, 0), -6);
        Support.fill(x, 0, 1, 1, 1, 3);
        due("66 nothing", x.paste(0, 0, 1, 0, 0), -6);
        due("66 nothing", x.paste(1, 0, 0, 0, 0), -6);
        x.row(1, 1, 4);
        due("66 not of one WIDTH", x.paste(0, 0, 1, 0, 0), -8);
        due("66 not of one WIDTH, ahead of beyond", x.paste(0, 9, 1, 0, -1), -8);
        x.row(1, 0, 3);
        due("66 paste", x.paste(0, 0, 1, 1, 2), 0);
        due("66 pasted", x.would(1, 0), 2);
        due("66 beyond", x.paste(0, 0, 1, 0, 4), -7);
        due("66 beyond", x.paste(0, 2, 1, 0, 3), -7);
        due("66 beyond", x.paste(0, 0, 1, 2, 2), -7);
        due("66 below 0", x.paste(0, -1, 1, 0, 1), -7);
        due("66 below 0", x.paste(0, 0, 1, -1, 1), -7);
        due("66 below 0", x.paste(0, 0, 1, 0, -1), -7);
        due("66 beyond", x.paste(0, Integer.MAX_VALUE, 1, 0, 1), -7);
        due("66 beyond", x.paste(0, 1, 1, 1, Integer.MAX_VALUE), -7);
        due("66 nothing happened", x.would(1, 0), 2);
        due("66 none at the end", x.paste(0, 4, 1, 3, 0), 0);
        // 1 1 1 3 becomes 1 1 1 1 onto its own, as they were.
        due("66 its own", x.paste(0, 0, 0, 1, 3), 0);
        due("66 its own", x.think(0, 0), 0b1000);
        due("66 its own", x.would(0, 0), 3);
        Support.fill(x, 2, 3, 1, 1, 1);
        due("66 its own, the other way", x.paste(2, 1, 2, 0, 3), 0);
        due("66 its own, the other way", x.would(2, 0), 3);
        Support.fill(x, 3, 1, 3, 1, 1, 1);
        due("66 as they were", x.paste(3, 0, 3, 1, 4), 0);
        // 1 1 3 1 1
        due("66 as they were", x.would(3, 0), 3);
    }
}
