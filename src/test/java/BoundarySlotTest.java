import java.math.BigInteger;

/** The boundary cases of walks drawn, counts, images and SLOTS: promises 59 to 66. */
public final class BoundarySlotTest {
    private BoundarySlotTest() {
    }

    private static void due(String call, long got, long want) {
        Support.due(call, got, want);
    }

    public static void main(String[] args) {
        drawnAsked();
        drawsByHand();
        luck();
        countsOfNone();
        countsOfAll();
        images();
        imagesKeep();
        row();
        rowRefused();
        write();
        writeCut();
        pasteRefused();
        pasteBeyond();
        pasteAsTheyWere();
        Support.finish("BoundarySlotTest");
    }

    private static void drawnAsked() {
        LostWood x = Edges.ten();
        Edges.bounds("59 seed", 0, 2000000000, -2, v -> x.drawn(v, 0, 40, 0));
        Edges.bounds("59 PUPIL", 0, 3, -2, v -> x.drawn(0, v, 40, 1));
        Edges.bounds("59 n", 0, 40, -2, v -> x.drawn(0, 0, v, 2));
        Edges.bounds("59 what", 0, 2, -2, v -> x.drawn(0, 0, 0, v));
        due("59 no WOOD", new LostWood().drawn(0, 0, 0, 0), -2);
        due("59 no PUPILS", Support.wood(Edges.TWO).drawn(0, 0, 0, 0), -2);
        for (int p = 0; p < 4; p++) {
            due("59 no STEPS: where", x.drawn(7, p, 0, 0), x.where(p));
            due("59 no STEPS: THINKS", x.drawn(7, p, 0, 1), x.thinks(p));
            due("59 0 STEPS, too", x.drawn(7, p, 0, 2), p == 0 ? 1 : 0);
        }
        // It KNOWS for ever: as often as there are STEPS, and once.
        due("59 how often", x.drawn(7, 0, 40, 2), 41);
        due("59 how often", x.drawn(7, 0, 1, 2), 2);
        LostWood never = Support.wood(Edges.TWO + "pupil in 0 lies 0 thinks 1;");
        due("59 never", never.drawn(7, 0, 40, 2), 0);
        Edges.stays("59, 60 asked", z -> {
            z.drawn(0, 0, 40, 0);
            z.drawn(0, 1, 40, 1);
            z.drawn(2000000000, 3, 40, 2);
            z.drawn(2000000001, 3, 40, 2);
            z.drawn(0, 4, 40, 2);
            z.luck(0, 20, 0, 40);
            z.luck(0, 21, 0, 40);
            z.luck(0, 1, 4, 40);
        });
    }

    /** By WIND w one goes w PLACES further round: where one is tells the sum of all draws. */
    private static void drawsByHand() {
        StringBuilder text = new StringBuilder("wood places 4;pupil in 0 lies 0 thinks 0;");
        for (int p = 0; p < 4; p++) {
            for (int wind = 1; wind < 4; wind++) {
                text.append("way ").append(p).append(' ').append("nesw".charAt(wind)).append(" to ").append((p + wind) % 4).append(';');
            }
        }
        LostWood x = Support.wood(text.toString());
        for (int seed : new int[] {0, 1, 65535, 65536, 2147483, 1999999999, 2000000000}) {
            int at = 0;
            BigInteger v = BigInteger.valueOf(seed);
            for (int n = 0; n <= 40; n++) {
                due("59 seed " + seed + ", " + n + " STEPS", x.drawn(seed, 0, n, 0), at);
                v = v.multiply(BigInteger.valueOf(1103515245)).add(BigInteger.valueOf(12345)).mod(BigInteger.valueOf(2147483648L));
                at = (at + v.divide(BigInteger.valueOf(65536)).intValue() % 4) % 4;
            }
        }
    }

    private static void luck() {
        LostWood x = Edges.ten();
        Edges.bounds("60 seed", 0, 2000000000, -2, v -> x.luck(v, 20, 0, 40));
        Edges.bounds("60 m", 1, 20, -2, v -> x.luck(0, v, 0, 40));
        Edges.bounds("60 PUPIL", 0, 3, -2, v -> x.luck(0, 1, v, 40));
        Edges.bounds("60 n", 0, 40, -2, v -> x.luck(0, 1, 0, v));
        due("60 no WOOD", new LostWood().luck(0, 1, 0, 0), -2);
        due("60 no PUPILS", Support.wood(Edges.TWO).luck(0, 1, 0, 0), -2);
        due("60 one that KNOWS", x.luck(0, 1, 0, 40), 1);
        due("60 twenty that KNOW", x.luck(0, 20, 0, 40), 20);
        due("60 none that KNOWS", x.luck(0, 20, 1, 0), 0);
        // One that KNOWS behind its first STEP, if drawn east: by each seed alone, and by all.
        LostWood y = Support.wood("wood places 3;mark 2 1;way 0 e to 2;pupil in 0 lies 0 thinks 0 1;");
        for (int seed : new int[] {0, 5, 1999999981, 2000000000}) {
            int sum = 0;
            for (int k = 0; k < 20; k++) {
                due("60 of " + k, k == 0 ? 0 : y.luck(seed, k, 0, 1), sum);
                BigInteger v = BigInteger.valueOf(1103515245).multiply(BigInteger.valueOf((long) seed + k)).add(BigInteger.valueOf(12345));
                sum += v.testBit(16) && !v.testBit(17) ? 1 : 0;
            }
            due("60 of 20", y.luck(seed, 20, 0, 1), sum);
        }
        // At last, not on the way: by its first STEP it is LOST, for ever.
        LostWood z = Support.wood("wood places 5;way 0 n to 1;way 0 e to 2;way 0 s to 3;way 0 w to 4;pupil in 0 lies 2 thinks 0;");
        due("60 now", z.luck(3, 20, 0, 0), 20);
        due("60 at last", z.luck(3, 20, 0, 1), 0);
        due("60 at last", z.luck(3, 20, 0, 40), 0);
        due("59 0 STEPS, too", z.drawn(3, 0, 40, 2), 1);
    }

    private static void countsOfNone() {
        LostWood x = new LostWood();
        Edges.bounds("61 what", 0, 8, -1, x::count);
        for (int what = 0; what <= 8; what++) {
            due("61 of a new object: " + what, x.count(what), 0);
        }
        LostWood two = Support.wood(Edges.TWO);
        int[] want = {2, 0, 0, 0, 0, 1, 0, 0, 0};
        for (int what = 0; what < want.length; what++) {
            due("61 of two: " + what, two.count(what), want[what]);
        }
    }

    private static void countsOfAll() {
        LostWood x = Edges.ten();
        int[] want = {10, 18, 2, 4, 5, 21, 0, 0, 0};
        for (int what = 0; what < want.length; what++) {
            due("61 of ten: " + what, x.count(what), want[what]);
        }
        Edges.refusedBelow("61 what", 0, -1, x::count);
        Edges.refusedAbove("61 what", 8, -1, x::count);
        StringBuilder text = new StringBuilder("wood places 10;");
        for (int p = 0; p < 10; p++) {
            for (int wind = 0; wind < 4; wind++) {
                text.append("way ").append(p).append(' ').append("nesw".charAt(wind)).append(" to ").append((p + 1) % 10).append(';');
            }
            text.append("mark ").append(p).append(" 9;");
        }
        LostWood y = Support.wood(text.toString());
        due("61 all forty ways", y.count(1), 40);
        due("61 all ten marks", y.count(2), 10);
        due("61 LINES", y.count(5), 51);
        due("57 one to itself", y.lead(9, 3, 9), 0);
        due("61 it leads not elsewhere", y.count(1), 39);
        due("58 one without", y.marks(9, 0), 9);
        due("61 one fewer", y.count(2), 9);
        due("61 LINES stay", y.count(5), 51);
        for (int slot = 0; slot < 4; slot++) {
            due("61 SLOTS", y.count(8), slot);
            y.row(3 - slot, 0, slot == 0 ? 0 : 60);
        }
        due("61 all SLOTS", y.count(8), 4);
        y.row(3, 0, 1);
        due("61 in place of another", y.count(8), 4);
    }

    private static void images() {
        LostWood x = Edges.ten();
        Edges.refusedBelow("62 k", 0, -2, x::image);
        Edges.refusedAbove("62 k", 2, -2, x::image);
        Edges.refusedBelow("63 k", 0, -2, x::back);
        Edges.refusedAbove("63 k", 2, -2, x::back);
        for (int k = 0; k < 3; k++) {
            due("63 nothing", x.back(k), -6);
        }
        due("62 image", x.image(1), 0);
        due("63 nothing", x.back(0), -6);
        due("63 nothing", x.back(2), -6);
        due("63 back", x.back(1), 0);
        Edges.bounds("62 k", 0, 2, -2, x::image);
        Edges.bounds("63 k", 0, 2, -2, x::back);
        Edges.stays("62, 63 refused", z -> {
            due("62 k", z.image(3), -2);
            due("62 k", z.image(-1), -2);
            due("63 k", z.back(3), -2);
            due("63 k", z.back(-1), -2);
            due("63 nothing", z.back(2), -6);
        });
    }

    private static void imagesKeep() {
        // What is done behind an image does not touch it, and the image does not touch TAPE, SLOTS and FAULT.
        LostWood x = Edges.ten();
        x.image(0);
        x.lead(0, 0, 9);
        x.marks(5, 5);
        x.image(1);
        for (int n = 0; n < 60; n++) {
            x.goes(n % 4, 1);
        }
        x.image(2);
        Support.tell(x, Edges.TWO + "?");
        x.wood();
        x.row(1, 3, 60);
        due("63 back", x.back(0), 0);
        due("63 WOOD", x.leads(0, 0), 0);
        due("63 WOOD", x.mark(5), 0);
        due("63 no STEPS", x.count(7), 0);
        due("63 no STEPS", x.undo(), -5);
        due("63 the TAPE stays", x.count(6), 15);
        due("63 the FAULT stays", x.fault(0), 1);
        due("63 the FAULT stays", x.fault(1), 14);
        due("63 SLOTS stay", x.count(8), 1);
        due("63 back", x.back(2), 0);
        due("63 sixty STEPS", x.count(7), 60);
        due("63 sixty STEPS", x.goes(0, 0), -5);
        due("63 sixty STEPS", x.undo(), 59);
        due("63 again", x.back(2), 0);
        due("63 sixty STEPS again", x.count(7), 60);
        due("17 anew", x.anew(), 60);
        due("17 as told", x.where(3), 5);
        due("17 made otherwise", x.leads(0, 0), 9);
        due("63 back", x.back(1), 0);
        due("63 one has not gone", x.lead(0, 0, 0), 9);
        due("63 back", x.back(1), 0);
        due("63 as kept", x.leads(0, 0), 9);
        due("63 PUPILS", x.count(3), 4);
        due("63 LESSONS", x.count(4), 5);
        due("63 LINES", x.count(5), 21);
        x.end(14);
        due("4 another WOOD", x.wood(), 1);
        due("62 in place of another one", x.image(1), 0);
        due("63 back", x.back(0), 0);
        due("63 back", x.back(1), 0);
        due("63 the later one", x.count(0), 2);
        LostWood gone = Edges.full();
        gone.image(2);
        gone.plan(1023);
        gone.anew();
        gone.lead(0, 0, 9);
        gone.marks(5, 5);
        gone.goes(3, 1);
        due("63 another PLAN", gone.plan(0b0000110000), 0);
        due("63 back", gone.back(2), 0);
        due("63 a PLAN", gone.plan(0b0000110000), 4);
        LostWood kept = Edges.full();
        kept.image(2);
        Edges.same("63 as image 2 has it", gone, kept);
        LostWood other = Edges.full();
        other.image(2);
        other.end(14);
        other.wood();
        due("63 back to another WOOD", other.back(2), 0);
        int[] at = {1, 2, 8, 6};
        for (int p = 0; p < 4; p++) {
            due("63 where they are", other.where(p), at[p]);
            due("63 lies", other.pupil(p, 0), p);
        }
        due("63 THINKS", other.thinks(1), 0b0110);
        due("63 STEPS", other.undo(), 3);
        due("63 STEPS", other.where(2), 9);
        due("63 STEPS", other.thinks(2), 1023);
        other.row(0, 0, 0);
        due("63 LESSONS", other.lesson(0, 0, 4), 4);
        LostWood y = new LostWood();
        due("62 no WOOD", y.image(0), 0);
        Support.tell(y, Edges.TEN);
        y.wood();
        due("63 no WOOD", y.back(0), 0);
        Edges.noWood("63 back", y);
    }

    private static void row() {
        LostWood x = Edges.star();
        Edges.bounds("64 SLOT", 0, 3, -2, v -> x.row(v, 0, 1));
        Edges.bounds("64 WIDTH", 0, 3, -2, v -> x.row(0, v, 1));
        Edges.refusedAbove("64 n", 60, -2, v -> x.row(0, 0, v));
        Edges.refusedBelow("64 n", 0, -3, v -> x.row(0, 0, v));
        for (int width = 0; width < 4; width++) {
            due("64 none", x.row(2, width, 0), 0);
            due("65 there is none", x.write(2, 0, 1), -7);
            due("64 sixty", x.row(2, width, 60), 0);
            for (int i = 0; i < 60; i += 59) {
                due("64 all 0", Edges.peek(width, x, 2, i), 0);
                due("65 write", x.write(2, i, 3), 0);
                due("65 written", Edges.peek(width, x, 2, i), 3);
            }
            due("64 again", x.row(2, width, 60), 0);
            due("64 all 0, in place of another one", Edges.peek(width, x, 2, 0), 0);
            due("64 all 0, in place of another one", Edges.peek(width, x, 2, 59), 0);
            x.write(2, 1, 3);
            due("64 shorter", x.row(2, width, 1), 0);
            due("65 it is gone", x.write(2, 1, 0), -7);
            due("64 longer", x.row(2, width, 2), 0);
            due("64 all 0", Edges.peek(width, x, 2, 1), 0);
        }
        due("64 without a WOOD", new LostWood().row(3, 3, 60), 0);
    }

    private static void rowRefused() {
        LostWood x = Edges.star();
        Support.fill(x, 0, 2, 3);
        int[][] wrong = {{0, 0, 61, -2}, {0, 4, 2, -2}, {0, -1, 2, -2}, {0, 0, -1, -3}, {0, 3, Integer.MIN_VALUE, -3},
            {0, 4, -1, -2}, {0, -1, -1, -2}, {4, 0, -1, -2}, {-1, 0, -1, -2}, {4, 0, 61, -2}, {0, 0, Integer.MAX_VALUE, -2}};
        for (int[] w : wrong) {
            due("64 refused", x.row(w[0], w[1], w[2]), w[3]);
            due("64 the SLOT stays", Edges.peek(0, x, 0, 0), 2);
            due("64 the SLOT stays", Edges.peek(0, x, 0, 1), 3);
            due("64 the SLOT stays", x.write(0, 2, 0), -7);
        }
        LostWood y = Edges.star();
        due("64 refused", y.row(1, 0, -1), -3);
        due("64 it still has nothing", y.write(1, 0, 0), -6);
        due("64 refused", y.row(1, 0, 61), -2);
        due("64 it still has nothing", y.would(1, 0), -6);
        due("61 SLOTS", y.count(8), 0);
        Edges.stays("64 refused", z -> {
            for (int slot = 0; slot < 4; slot++) {
                z.row(slot, 0, -1);
                z.row(slot, 0, 61);
                z.row(slot, 4, 1);
                z.row(slot, -1, 1);
            }
            z.row(4, 0, 1);
            z.row(-1, 0, 1);
        });
    }

    private static void write() {
        LostWood x = Edges.star();
        Edges.refusedBelow("65 SLOT", 0, -2, v -> x.write(v, 0, 0));
        Edges.refusedAbove("65 SLOT", 3, -2, v -> x.write(v, 0, 0));
        for (int slot = 0; slot < 4; slot++) {
            due("65 nothing", x.write(slot, 0, 0), -6);
            due("65 nothing, ahead of no such number", x.write(slot, -1, 0), -6);
        }
        due("65 no SLOT, ahead of no such number", x.write(4, -1, 0), -2);
        for (int n : new int[] {1, 2, 59, 60}) {
            x.row(0, 0, n);
            Edges.bounds("65 i", 0, n - 1, -7, v -> x.write(0, v, 1));
        }
        for (int slot = 0; slot < 4; slot++) {
            x.row(slot, 0, 1);
        }
        Edges.bounds("65 SLOT", 0, 3, -2, v -> x.write(v, 0, 0));
        // The number next to the one that is written stays, and so does the next SLOT.
        x.row(0, 0, 60);
        x.row(1, 0, 60);
        x.write(0, 59, 3);
        due("65 beyond", x.write(0, 60, 2), -7);
        due("65 beyond", x.write(1, -1, 2), -7);
        due("65 written", Edges.peek(0, x, 0, 59), 3);
        due("65 the next stays", Edges.peek(0, x, 0, 58), 0);
        due("65 the next SLOT stays", Edges.peek(0, x, 1, 0), 0);
        Edges.stays("65 refused", z -> {
            z.write(0, 2, 2);
            z.write(0, -1, 2);
            z.write(3, 0, 2);
            z.write(4, 0, 2);
            z.write(2, 60, 2);
        });
    }

    private static void writeCut() {
        LostWood x = Edges.star();
        long[] units = {1L << 8, 1L << 16, 1L << 32};
        for (int width = 0; width < 4; width++) {
            x.row(0, width, 1);
            for (int unit = 0; unit < 3; unit++) {
                for (long more : new long[] {1, -1, 2, 3, 127}) {
                    x.write(0, 0, more * units[unit] + 2);
                    boolean gone = unit >= width;
                    due("65 cut to WIDTH " + width + " of " + more + " times " + units[unit], x.would(0, 0), gone ? 3 : -2);
                }
            }
            for (long no : new long[] {4, -1, 128, 255, 32768 + 4, 65535, Integer.MAX_VALUE, Long.MAX_VALUE}) {
                x.write(0, 0, no);
                due("65 no WIND in any WIDTH: " + no, x.would(0, 0), -2);
            }
            x.write(0, 0, Long.MIN_VALUE);
            due("65 the least long in WIDTH " + width, x.would(0, 0), width == 3 ? -2 : 1);
            x.write(0, 0, 128);
            due("65 half a byte's range", x.would(0, 0), -2);
            x.write(0, 0, 3);
            due("65 the last WIND", x.would(0, 0), 4);
        }
    }

    private static void pasteRefused() {
        LostWood x = Edges.star();
        Edges.refusedBelow("66 SLOT", 0, -2, v -> x.paste(v, 0, 0, 0, 0));
        Edges.refusedAbove("66 SLOT", 3, -2, v -> x.paste(v, 0, 0, 0, 0));
        Edges.refusedBelow("66 to", 0, -2, v -> x.paste(0, 0, v, 0, 0));
        Edges.refusedAbove("66 to", 3, -2, v -> x.paste(0, 0, v, 0, 0));
        due("66 both have nothing", x.paste(0, 0, 1, 0, 0), -6);
        due("66 its own has nothing", x.paste(2, 0, 2, 0, 0), -6);
        x.row(0, 0, 2);
        due("66 one has nothing", x.paste(0, 0, 1, 0, 0), -6);
        due("66 one has nothing", x.paste(1, 0, 0, 0, 0), -6);
        due("66 nothing, ahead of beyond", x.paste(0, 9, 1, -1, -1), -6);
        due("66 no SLOT, ahead of nothing", x.paste(1, 0, 4, 0, 0), -2);
        for (int from = 0; from < 4; from++) {
            for (int to = 0; to < 4; to++) {
                x.row(0, from, 2);
                x.row(1, to, 2);
                due("66 WIDTHS " + from + ", " + to, x.paste(0, 0, 1, 0, 2), from == to ? 0 : -8);
                due("66 WIDTHS, of none", x.paste(0, 0, 1, 0, 0), from == to ? 0 : -8);
                due("66 WIDTHS, ahead of beyond", x.paste(0, 3, 1, -1, -1), from == to ? -7 : -8);
            }
        }
        for (int slot = 0; slot < 4; slot++) {
            x.row(slot, 2, 1);
        }
        Edges.bounds("66 SLOT", 0, 3, -2, v -> x.paste(v, 0, 0, 0, 1));
        Edges.bounds("66 to", 0, 3, -2, v -> x.paste(0, 0, v, 0, 1));
        Edges.stays("66 refused", z -> {
            due("66 WIDTHS", z.paste(0, 0, 2, 0, 1), -8);
            due("66 nothing", z.paste(0, 0, 3, 0, 1), -6);
            due("66 SLOT", z.paste(0, 0, 4, 0, 1), -2);
            due("66 beyond", z.paste(0, 1, 1, 0, 2), -7);
            due("66 beyond", z.paste(0, 0, 1, 1, 2), -7);
            due("66 beyond", z.paste(0, 0, 1, 0, 3), -7);
            due("66 below 0", z.paste(0, -1, 1, 0, 1), -7);
            due("66 below 0", z.paste(0, 0, 1, -1, 1), -7);
            due("66 below 0", z.paste(0, 0, 1, 0, -1), -7);
        });
    }

    private static void pasteBeyond() {
        LostWood x = Edges.star();
        x.row(0, 0, 60);
        x.row(1, 0, 3);
        due("66 all three", x.paste(1, 0, 0, 57, 3), 0);
        due("66 one beyond", x.paste(1, 0, 0, 58, 3), -7);
        due("66 one too many", x.paste(1, 0, 0, 0, 4), -7);
        due("66 into all three", x.paste(0, 57, 1, 0, 3), 0);
        due("66 one beyond", x.paste(0, 58, 1, 0, 3), -7);
        due("66 the last", x.paste(0, 59, 1, 2, 1), 0);
        due("66 beyond the last", x.paste(0, 60, 1, 2, 1), -7);
        due("66 beyond the last", x.paste(0, 59, 1, 3, 1), -7);
        due("66 all sixty", x.paste(0, 0, 0, 0, 60), 0);
        due("66 sixty-one", x.paste(0, 0, 0, 0, 61), -7);
        due("66 all but one", x.paste(0, 0, 0, 1, 59), 0);
        due("66 one beyond", x.paste(0, 0, 0, 1, 60), -7);
        for (int far : new int[] {Integer.MAX_VALUE, Integer.MIN_VALUE, Integer.MAX_VALUE - 1, -1}) {
            due("66 far", x.paste(0, far, 1, 0, 1), -7);
            due("66 far", x.paste(0, 0, 1, far, 1), -7);
            due("66 far", x.paste(0, 0, 1, 0, far), -7);
            due("66 far", x.paste(0, far, 1, far, far), -7);
            due("66 far", x.paste(0, 1, 1, 1, far), -7);
            due("66 far", x.paste(0, far, 1, 0, 2), -7);
        }
        due("66 none", x.paste(0, 0, 1, 0, 0), 0);
        due("66 none, from the ends", x.paste(0, 60, 1, 3, 0), 0);
        due("66 none, below 0", x.paste(0, -1, 1, 0, 0), -7);
        due("66 none, below 0", x.paste(0, 0, 1, -1, 0), -7);
        x.row(2, 0, 0);
        due("66 none of a row of none", x.paste(2, 0, 2, 0, 0), 0);
        due("66 one of a row of none", x.paste(2, 0, 0, 0, 1), -7);
        due("66 one to a row of none", x.paste(0, 0, 2, 0, 1), -7);
    }

    private static void pasteAsTheyWere() {
        for (int width = 0; width < 4; width++) {
            for (int from = 0; from <= 3; from++) {
                for (int to = 0; to <= 3; to++) {
                    LostWood x = Edges.star();
                    int[] was = {1, 3, 2, 0, 3, 1, 0, 2};
                    x.row(0, width, was.length);
                    for (int i = 0; i < was.length; i++) {
                        x.write(0, i, was[i]);
                    }
                    due("66 its own", x.paste(0, from, 0, to, 5), 0);
                    for (int i = 0; i < was.length; i++) {
                        int want = i >= to && i < to + 5 ? was[i - to + from] : was[i];
                        due("66 as they were", Edges.peek(width, x, 0, i), want);
                    }
                }
            }
        }
        LostWood x = Edges.star();
        Support.fill(x, 0, 1, 2, 3);
        Support.fill(x, 1, 0, 0, 0);
        due("66 another one's", x.paste(0, 1, 1, 0, 2), 0);
        due("66 put there", Edges.peek(0, x, 1, 0), 2);
        due("66 put there", Edges.peek(0, x, 1, 1), 3);
        due("66 no more", Edges.peek(0, x, 1, 2), 0);
        due("66 its own stays", Edges.peek(0, x, 0, 0), 1);
        due("66 its own stays", Edges.peek(0, x, 0, 1), 2);
        x.write(0, 1, 0);
        due("66 put there for good", Edges.peek(0, x, 1, 0), 2);
        // Numbers that are no WINDS are put as they are, all bytes of them.
        x.row(0, 3, 1);
        x.row(1, 3, 1);
        x.write(0, 0, (1L << 40) + 1);
        due("66 a long one", x.paste(0, 0, 1, 0, 1), 0);
        due("66 a long one", x.would(1, 0), -2);
    }
}
