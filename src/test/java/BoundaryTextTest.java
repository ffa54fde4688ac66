/** The boundary cases of the TAPE and the WOOD that it tells: promises 1 to 5, and I with its FAULTS. */
public final class BoundaryTextTest {
    private BoundaryTextTest() {
    }

    private static void due(String call, long got, long want) {
        Support.due(call, got, want);
    }

    public static void main(String[] args) {
        newObject();
        feedToTheFull();
        feedOrder();
        end();
        woodOfNoLines();
        woodInPlaceOfAnother();
        faultLeavesAll();
        faultAsked();
        placesTold();
        numbersTold();
        pupilsAndLessonsTold();
        windsTold();
        signsBetweenTokens();
        firstFault();
        endOfText();
        laterOnes();
        longTexts();
        Support.finish("BoundaryTextTest");
    }

    private static void newObject() {
        LostWood x = new LostWood();
        Edges.noWood("1 a new object", x);
        due("1 TAPE", x.count(6), 0);
        due("1 SLOTS but the one just made", x.count(8), 1);
        due("1 SLOT 1 has nothing", x.write(1, 0, 0), -6);
        due("1 image", x.back(0), -6);
        due("1 image", x.back(1), -6);
        due("1 image", x.back(2), -6);
        due("5 ahead of any", x.fault(0), 0);
        due("5 ahead of any", x.fault(1), -1);
    }

    private static void feedToTheFull() {
        LostWood x = new LostWood();
        // 14 bytes of text and 986 blanks: just 1,000, with the first and the last byte told.
        due("2 feed", x.feed(0x20776f6f, 0x6420706c, 0x61636573, 0x20202020, 0x20202020), 20);
        for (int n = 2; n <= 49; n++) {
            due("2 feed", x.feed(0x20202020, 0x20202020, 0x20202020, 0x20202020, 0x20202020), 20 * n);
        }
        due("2 the last that come", x.feed(0x20202020, 0x20202020, 0x20202020, 0x20202020, 0x2020333b), 1000);
        due("2 more than 1,000", x.feed(0x3f3f3f3f, 0x3f3f3f3f, 0x3f3f3f3f, 0x3f3f3f3f, 0x3f3f3f3f), -1);
        due("2 none came", x.count(6), 1000);
        due("2 again", x.feed(0, 0, 0, 0, 0), -1);
        due("2 none came, all are as they were", x.wood(), 1);
        due("2 PLACES", x.count(0), 3);
        due("2 empty again", x.feed(0, 0, 0, 0, 0), 20);

        LostWood y = new LostWood();
        for (int n = 1; n <= 50; n++) {
            y.feed(0x3b3b3b3b, 0x3b3b3b3b, 0x3b3b3b3b, 0x3b3b3b3b, 0x3b3b3b3b);
        }
        due("3 end", y.end(999), 999);
        due("2 of 999 bytes", y.feed(0, 0, 0, 0, 0), -1);
        due("3 end", y.end(981), 981);
        due("2 one above 1,000", y.feed(0, 0, 0, 0, 0), -1);
        due("2 none came", y.count(6), 981);
        due("3 end", y.end(980), 980);
        due("2 just 1,000", y.feed(0, 0, 0, 0, 0), 1000);
        due("3 end", y.end(979), 979);
        due("2 one below 1,000", y.feed(0, 0, 0, 0, 0), 999);
        Edges.stays("2 refused", z -> {
            int had = z.count(6);
            int left = had;
            while (left <= 980) {
                left = z.feed(0, 0, 0, 0, 0);
            }
            due("2 refused", z.feed(1, 2, 3, 4, 5), -1);
            z.end(had);
        });
    }

    private static void feedOrder() {
        // Each of the twenty bytes at its place: a sign that is none there is told by its place.
        int[] numbers = new int[5];
        for (int at = 0; at < 20; at++) {
            java.util.Arrays.fill(numbers, 0x20202020);
            int shift = 8 * (3 - at % 4);
            numbers[at / 4] = 0x20202020 & ~(255 << shift) | 0xff << shift;
            LostWood x = new LostWood();
            x.feed(numbers[0], numbers[1], numbers[2], numbers[3], numbers[4]);
            due("2 wood", x.wood(), -4);
            due("2 byte " + at, x.fault(1), at);
        }
    }

    private static void end() {
        LostWood x = new LostWood();
        due("3 of none", x.end(0), 0);
        due("3 has not so many", x.end(1), -1);
        x.feed(0x776f6f64, 0x20706c61, 0x63657320, 0x333b3b3b, 0x3b3b3b3b);
        due("3 has not so many", x.end(21), -1);
        due("3 has not so many", x.end(Integer.MAX_VALUE), -1);
        due("3 below 0", x.end(-1), -1);
        due("3 below 0", x.end(Integer.MIN_VALUE), -1);
        due("3 nothing happened", x.count(6), 20);
        due("3 all", x.end(20), 20);
        due("3 fewer", x.end(14), 14);
        due("3 they are gone", x.end(15), -1);
        due("3 nothing happened", x.count(6), 14);
        // Those that come then stand behind the 14, not behind the 20 that were.
        due("2 behind them", x.feed(0x6d61726b, 0x20302037, 0x3b202020, 0x20202020, 0x20202020), 34);
        due("3 its first bytes", x.wood(), 2);
        due("2 behind them", x.mark(0), 7);
        due("4 empty then", x.end(1), -1);
        due("4 empty then", x.end(0), 0);
        Edges.stays("3 refused", z -> {
            z.end(-1);
            z.end(z.count(6) + 1);
            z.end(Integer.MAX_VALUE);
            z.end(Integer.MIN_VALUE);
            z.end(z.count(6));
        });
    }

    private static void woodOfNoLines() {
        LostWood x = Edges.full();
        x.end(0);
        due("4 of an empty TAPE", x.wood(), 0);
        due("5 no FAULT", x.fault(0), 0);
        due("5 no place", x.fault(1), -1);
        due("4 SLOTS stay", x.count(8), 3);
        Edges.noWood("4 no LINES", x);
        due("63 images stay", x.back(1), 0);
        due("63 images stay", x.count(7), 3);
        Support.tell(x, " \n\n ");
        due("4 of blanks alone", x.wood(), 0);
        due("4 empty then", x.count(6), 0);
        Edges.noWood("4 blanks alone", x);
        LostWood y = new LostWood();
        due("4 of a new object", y.wood(), 0);
        Edges.noWood("4 a new object", y);
    }

    private static void woodInPlaceOfAnother() {
        LostWood x = Edges.full();
        x.plan(1023);
        x.end(0);
        Support.tell(x, Edges.TWO);
        due("4 LINES", x.wood(), 1);
        due("4 TAPE empty then", x.count(6), 0);
        int[] want = {2, 0, 0, 0, 0, 1, 0, 0, 3};
        for (int what = 0; what < want.length; what++) {
            due("4 in place of another: count(" + what + ")", x.count(what), want[what]);
        }
        due("4 its PLACES are gone", x.leads(2, 0), -2);
        due("4 its PLACES are gone", x.mark(2), -2);
        due("4 its PLACES are gone", x.becomes(4, 0), -2);
        due("4 its ways are gone", x.leads(0, 1), 0);
        due("4 its marks are gone", x.mark(0), 0);
        due("4 its PUPILS are gone", x.where(0), -2);
        due("4 its PLANS are gone", x.plan(3), -1);
        due("4 nobody has gone", x.undo(), -5);
        due("4 nobody has gone", x.lead(0, 0, 1), 0);
        Support.tell(x, Edges.TEN);
        due("4 LINES", x.wood(), 21);
        due("4 the way that was made is gone", x.leads(0, 0), 0);
        due("4 as told", x.where(3), 5);
        due("4 as told", x.thinks(2), 1023);
        x.goes(3, 0);
        Support.tell(x, Edges.TEN);
        due("4 the same again", x.wood(), 21);
        due("4 nobody has gone", x.count(7), 0);
        due("4 nobody has gone", x.where(3), 5);
    }

    private static void faultLeavesAll() {
        LostWood x = Edges.full();
        x.end(0);
        Support.tell(x, "wood places 2;way 0 n to 1;mark 1 1;pupil in 1 lies 0 thinks 1;lesson bare 1;mark 2 1;");
        int[] counts = new int[9];
        for (int what = 0; what <= 8; what++) {
            counts[what] = x.count(what);
        }
        due("4 a FAULT", x.wood(), -4);
        for (int what = 0; what <= 8; what++) {
            due("4 all stays, count(" + what + ")", x.count(what), counts[what]);
        }
        due("4 the WOOD stays", x.leads(8, 1), 9);
        due("4 the WOOD stays", x.mark(9), 9);
        due("4 the WOOD stays", x.plan(1023), 7);
        int[] at = {1, 2, 8, 6};
        for (int p = 0; p < 4; p++) {
            due("4 where they are stays", x.where(p), at[p]);
        }
        due("4 STEPS stay", x.undo(), 3);
        due("4 STEPS stay", x.where(2), 9);
        due("4 STEPS stay", x.thinks(2), 1023);
        due("4 STEPS stay", x.undo(), 2);
        due("4 STEPS stay", x.where(3), 5);
        due("4 images stay", x.back(1), 0);
        due("4 images stay", x.count(7), 3);
        due("4 SLOTS stay", x.would(0, 0), 1);
        due("4 the TAPE stays", x.end(77), 77);
        due("4 the TAPE stays", x.wood(), 5);
        due("4 the TAPE stays", x.where(0), 1);

        // Of a new object there is still none, though the first LINES are good.
        LostWood z = new LostWood();
        Support.tell(z, Edges.TEN + "?");
        due("4 a FAULT", z.wood(), -4);
        Edges.noWood("4 a FAULT", z);
        due("4 the TAPE stays", z.count(6), Edges.TEN.length() + 1);
        due("4 the same TAPE again", z.wood(), -4);
        due("5 the same place", z.fault(1), Edges.TEN.length());
        due("3 its good part", z.end(Edges.TEN.length()), Edges.TEN.length());
        due("5 of the latest wood()", z.fault(0), 1);
        due("4 its good part", z.wood(), 21);
        due("5 without", z.fault(0), 0);
        due("5 without", z.fault(1), -1);
    }

    private static void faultAsked() {
        LostWood x = new LostWood();
        Edges.bounds("5 fault", 0, 1, -1, x::fault);
        Support.tell(x, "wood places 2;mark 0 10;");
        due("5 ahead of any", x.fault(0), 0);
        due("5 ahead of any", x.fault(1), -1);
        due("4 FAULT", x.wood(), -4);
        Edges.refusedBelow("5 fault", 0, -1, x::fault);
        Edges.refusedAbove("5 fault", 1, -1, x::fault);
        due("5 FAULT", x.fault(0), 2);
        due("5 place", x.fault(1), 21);
        x.end(14);
        x.feed(0, 0, 0, 0, 0);
        x.image(0);
        x.back(0);
        due("5 of the latest wood()", x.fault(0), 2);
        due("5 of the latest wood()", x.fault(1), 21);
        x.end(0);
        due("4 none", x.wood(), 0);
        due("5 0 without", x.fault(0), 0);
        due("5 NONE without", x.fault(1), -1);
        // A place may be 0, which is not NONE.
        x.feed(0, 0, 0, 0, 0);
        due("4 FAULT", x.wood(), -4);
        due("5 FAULT", x.fault(0), 1);
        due("5 place", x.fault(1), 0);
    }

    private static void fault(String text, int kind, int place) {
        Support.fault(text, kind, place);
    }

    /** The last PLACE is one, the next is none, wherever a PLACE is told. */
    private static void placesTold() {
        for (int places = 2; places <= 10; places++) {
            String w = "wood places " + places + ";";
            int last = places - 1;
            fault(w, 0, -1);
            placeTold(w + "way ", " n to 0;", last);
            placeTold(w + "way 0 n to ", ";", last);
            placeTold(w + "way 0 n to ", " back;", last);
            placeTold(w + "mark ", " 0;", last);
            placeTold(w + "pupil in ", " lies 0 thinks 0;", last);
            placeTold(w + "pupil in 0 lies 0 thinks ", ";", last);
            placeTold(w + "pupil in 0 lies 0 thinks 0 ", ";", last);
            placeTold(w + "pupil in 0 lies 0 thinks " + last + " ", " 0;", last);
            placeTold(w + "lesson bare ", ";", last);
            placeTold(w + "lesson shut ", " w;", last);
        }
    }

    private static void placeTold(String ahead, String behind, int last) {
        fault(ahead + 0 + behind, 0, -1);
        fault(ahead + last + behind, 0, -1);
        fault(ahead + (last + 1) + behind, 2, ahead.length());
        fault(ahead + (1L << 32) + behind, 2, ahead.length());
        fault(ahead + "18446744073709551616" + behind, 2, ahead.length());
    }

    private static void numbersTold() {
        for (int places = 0; places <= 12; places++) {
            boolean fine = places >= 2 && places <= 10;
            fault("wood places " + places + ";", fine ? 0 : 2, fine ? -1 : 12);
        }
        fault("wood places 02;", 0, -1);
        fault("wood places 2147483650;", 2, 12);
        fault("wood places 4294967298;", 2, 12);
        String w = Edges.TWO;
        for (int mark = 0; mark <= 11; mark++) {
            fault(w + "mark 1 " + mark + ";", mark <= 9 ? 0 : 2, mark <= 9 ? -1 : 21);
        }
        fault(w + "mark 1 4294967296;", 2, 21);
        for (int lies = 0; lies <= 5; lies++) {
            fault(w + "pupil in 0 lies " + lies + " thinks 0;", lies <= 3 ? 0 : 2, lies <= 3 ? -1 : 30);
            boolean fine = lies >= 1 && lies <= 3;
            fault(w + "lesson lies " + lies + ";", fine ? 0 : 2, fine ? -1 : 26);
        }
        LostWood x = Support.wood(w + "mark 0 9;mark 1 0;pupil in 1 lies 3 thinks 1;");
        due("I the greatest mark", x.mark(0), 9);
        due("I 0 without", x.mark(1), 0);
        due("I lies at most", x.pupil(0, 0), 3);
    }

    private static void pupilsAndLessonsTold() {
        String w = Edges.TWO;
        String pupil = "pupil in 0 lies 0 thinks 0;";
        String lesson = "lesson bare 0;";
        for (int n = 0; n <= 4; n++) {
            due("I PUPILS", Support.wood(w + pupil.repeat(n)).count(3), n);
        }
        for (int n = 0; n <= 5; n++) {
            due("I LESSONS", Support.wood(w + lesson.repeat(n)).count(4), n);
        }
        int fifth = w.length() + 4 * pupil.length();
        fault(w + pupil.repeat(5), 3, fifth);
        fault(w + pupil.repeat(6), 3, fifth);
        fault(w + pupil.repeat(4) + "pupil", 3, fifth);
        fault(w + pupil.repeat(4) + "  pupil in 9", 3, fifth + 2);
        fault(w + pupil.repeat(4) + "pup", 1, fifth);
        fault(w + pupil.repeat(4) + lesson.repeat(5), 0, -1);
        int sixth = w.length() + 5 * lesson.length();
        fault(w + lesson.repeat(6), 3, sixth);
        fault(w + lesson.repeat(5) + "lesson", 3, sixth);
        fault(w + lesson.repeat(5) + "\nlesson lies 9", 3, sixth + 1);
        fault(w + lesson.repeat(5) + pupil.repeat(4), 0, -1);
        fault(w + "lesson lies 1;lesson shut 1 n;" + lesson.repeat(3) + "lesson shut 0 n;", 3, w.length() + 14 + 16 + 3 * 14);
        fault(w + pupil.repeat(4) + "mark 2 0;" + pupil, 2, fifth + 5);
        fault(w + pupil.repeat(5) + "mark 2 0;", 3, fifth);
        fault(w + "pupil in 0 lies 0 thinks 2;" + pupil.repeat(4), 2, 39);

        LostWood x = Support.wood("wood places 5;pupil in 4 lies 3 thinks 4;lesson lies 3;pupil in 3 lies 2 thinks 3;"
                + "pupil in 2 lies 1 thinks 2;mark 0 1;pupil in 1 lies 0 thinks 1;");
        for (int p = 0; p < 4; p++) {
            due("I numbered as they stand", x.where(p), 4 - p);
            due("I numbered as they stand", x.pupil(p, 0), 3 - p);
        }
        LostWood y = Support.wood("wood places 10;pupil in 0 lies 0 thinks 9 0 9 9 0;pupil in 0 lies 0 thinks 0 1 2 3 4 5 6 7 8 9;"
                + "pupil in 0 lies 0 thinks 7;");
        due("I like ones count once", y.thinks(0), 1 << 9 | 1);
        due("I like ones count once", y.pupil(0, 1), 2);
        due("I all", y.thinks(1), 1023);
        due("I all", y.pupil(1, 1), 10);
        due("I one", y.pupil(2, 1), 1);
        fault(w + "pupil in 0 lies 0 thinks;", 1, 38);
        fault(w + "pupil in 0 lies 0 thinks" + " 1".repeat(400) + ";", 0, -1);
    }

    private static void windsTold() {
        String[] winds = {"n", "e", "s", "w"};
        for (int wind = 0; wind < 4; wind++) {
            LostWood x = Support.wood("wood places 3;way 0 " + winds[wind] + " to 2;");
            LostWood y = Support.wood("wood places 3;way 0 " + winds[wind] + " to 2 back;");
            int against = new int[] {2, 3, 0, 1}[wind];
            for (int v = 0; v < 4; v++) {
                due("I one way", x.leads(0, v), v == wind ? 2 : 0);
                due("I not back", x.leads(2, v), 2);
                due("I to and back", y.leads(0, v), v == wind ? 2 : 0);
                due("I by the WIND against it", y.leads(2, v), v == against ? 0 : 2);
            }
            due("I ways", x.count(1), 1);
            due("I ways", y.count(1), 2);
            // To itself, and back: none leads elsewhere.
            LostWood z = Support.wood("wood places 3;way 1 " + winds[wind] + " to 1 back;");
            due("I itself", z.count(1), 0);
        }
        String w = Edges.TWO;
        for (String no : new String[] {"a", "nn", "ne", "north", "N", "0", ";", "to", "?"}) {
            fault(w + "way 0 " + no + " to 1;", 1, 20);
            fault(w + "lesson shut 0 " + no + ";", 1, 28);
        }
    }

    /** Each byte behind a LINE, behind a number, and behind a word: which are TOKENS, blanks, or go on with one. */
    private static void signsBetweenTokens() {
        String w = Edges.TWO;
        for (int c = 0; c < 256; c++) {
            String sign = String.valueOf((char) c);
            boolean digit = c >= '0' && c <= '9';
            if (c == 32 || c == 10) {
                fault(w + sign, 0, -1);
                fault(w + "mark 0 1" + sign + ";", 0, -1);
                fault(w + "mark" + sign + "0 1;", 0, -1);
                continue;
            }
            fault(w + sign, 1, 14);
            // A digit makes the mark 10 or more; a second ; can't stand there.
            fault(w + "mark 0 1" + sign + ";", digit ? 2 : 1, digit ? 21 : c == ';' ? 23 : 22);
            if (digit) {
                // mark 00 is PLACE 0, mark 10 and so on are none.
                fault(w + "mark" + sign + "0 1;", c == '0' ? 0 : 2, c == '0' ? -1 : 18);
            } else {
                fault(w + "mark" + sign + "0 1;", 1, c >= 'a' && c <= 'z' ? 14 : 18);
            }
        }
        fault("wood\n\n places\n2 \n;\n", 0, -1);
        fault("wood places2;mark0 1;mark1 1;way0n to1back;pupil in0lies0thinks0 1;lesson bare0;lesson shut1w;", 0, -1);
        fault("woodplaces 2;", 1, 0);
        fault("wo od places 2;", 1, 0);
        fault("wood places 1 0;", 2, 12);
        fault("wood places 3 0;", 1, 14);
        fault("wood places 2;;", 1, 14);
        fault("wood places 2 ; ;", 1, 16);
    }

    private static void firstFault() {
        String w = Edges.TWO;
        fault("mark 0 99;", 1, 0);
        fault("pupil in 0 lies 0 thinks 0;".repeat(5), 1, 0);
        fault("? wood", 1, 0);
        fault("5 wood", 1, 0);
        fault("; wood", 1, 0);
        fault("wood", 1, 4);
        fault("wood ;", 1, 5);
        fault("wood wood", 1, 5);
        fault("wood places places", 1, 12);
        fault("wood places 2 back;", 1, 14);
        fault("wood 2;", 1, 5);
        fault("wood places 1;wood", 2, 12);
        fault(w + "wood places 2;", 1, 14);
        fault(w + "mark 0 0;wood", 1, 23);
        fault(w + "places 2;", 1, 14);
        fault(w + "mark 2 ?", 2, 19);
        fault(w + "mark ? 10", 1, 19);
        fault(w + "mark 0 10 pupil", 2, 21);
        fault(w + "mark 0 1 10;", 1, 23);
        fault(w + "way 2 x", 2, 18);
        fault(w + "way n 0 to 1;", 1, 18);
        fault(w + "way 0 n to 1 2;", 1, 27);
        fault(w + "way 0 n to 1 back back;", 1, 32);
        fault(w + "way 0 n back 1;", 1, 22);
        fault(w + "lesson;", 1, 20);
        fault(w + "lesson 0;", 1, 21);
        fault(w + "lesson wood", 1, 21);
        fault(w + "lesson lies;", 1, 25);
        fault(w + "lesson bare 0 1;", 1, 28);
        fault(w + "lesson lies 1 1;", 1, 28);
        fault(w + "lesson shut 0 n n;", 1, 30);
        fault(w + "lesson shut n 0;", 1, 26);
        fault(w + "pupil 0;", 1, 20);
        fault(w + "pupil in in", 1, 23);
        fault(w + "pupil in 0 thinks 0 lies 0;", 1, 25);
        fault(w + "pupil in 0 lies thinks 0;", 1, 30);
        fault(w + "pupil in 0 lies 0 0;", 1, 32);
        fault(w + "pupil in 0 lies 0 thinks 0 n;", 1, 41);
    }

    /** A text that ends within a LINE has its FAULT at the end, blanks counted. */
    private static void endOfText() {
        String[] lines = {"way 0 n to 1 back;", "mark 0 1;", "pupil in 0 lies 0 thinks 0 1;", "lesson bare 0;",
            "lesson lies 1;", "lesson shut 0 n;"};
        for (String line : lines) {
            String text = Edges.TWO + line;
            fault(text, 0, -1);
            for (int n = Edges.TWO.length(); n < text.length(); n++) {
                String part = text.substring(0, n);
                boolean word = Character.isLetter(text.charAt(n)) && Character.isLetter(text.charAt(n - 1));
                if (n == Edges.TWO.length()) {
                    fault(part, 0, -1);
                    fault(part + "\n", 0, -1);
                } else if (!word) {
                    // Cut between TOKENS.
                    fault(part, 1, n);
                    fault(part + " \n ", 1, n + 3);
                }
            }
        }
        fault("wood places 2", 1, 13);
        fault("wood places 2\n", 1, 14);
        fault("wood places", 1, 11);
        fault("wood", 1, 4);
        fault("woo", 1, 0);
    }

    private static void laterOnes() {
        LostWood x = Support.wood("wood places 3;way 0 n to 1;way 0 n to 2;way 1 e to 2 back;way 2 w to 0;"
                + "way 2 n to 1 back;way 2 n to 2;mark 0 9;mark 0 0;mark 1 0;mark 1 9;mark 2 3;mark 2 4;");
        due("I a later way strikes", x.leads(0, 0), 2);
        due("I a later way strikes the way back", x.leads(2, 3), 0);
        due("I the way to it stays", x.leads(1, 1), 2);
        due("I a later way to itself strikes", x.leads(2, 0), 2);
        due("I its way back stays", x.leads(1, 2), 2);
        due("I a later 0 strikes", x.mark(0), 0);
        due("I a later 9 strikes", x.mark(1), 9);
        due("I a later mark strikes", x.mark(2), 4);
        due("I each LINE counts", x.count(5), 13);
        LostWood y = Support.wood("wood places 3;way 1 s to 2;way 0 n to 1 back;");
        due("I a later way back strikes", y.leads(1, 2), 0);
    }

    private static void longTexts() {
        // As many LINES as 1,000 bytes hold: "wood places 2;" and 109 of "mark 0 1;" are 995.
        String most = Edges.TWO + "mark 0 1;".repeat(109);
        LostWood x = Support.wood(most);
        due("4 LINES", x.count(5), 110);
        fault(most + " ".repeat(5), 0, -1);
        fault(most + " ".repeat(4) + "?", 1, 999);
        fault(most + "mark ", 1, 1000);
        fault("?" + " ".repeat(999), 1, 0);
        fault(" ".repeat(999) + "?", 1, 999);
        fault(" ".repeat(986) + Edges.TWO, 0, -1);
        fault("wood places " + "0".repeat(986) + "2;", 0, -1);
        fault("wood places " + "9".repeat(987) + ";", 2, 12);
        fault("wood places " + "9".repeat(988), 2, 12);
        fault("wood places 2;" + "m".repeat(986), 1, 14);
        fault("wood places 2" + " ".repeat(987), 1, 1000);
    }
}
