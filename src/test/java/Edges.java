import java.util.ArrayList;
import java.util.List;
import java.util.function.Consumer;
import java.util.function.IntUnaryOperator;

/** What the boundary tests share: an argument's bounds, WOODS that are full, and that refused calls leave all as it was. */
final class Edges {
    /** Ten PLACES in a row from west to east, four PUPILS, five LESSONS: as many as there may be of each. */
    static final String TEN = "wood places 10;way 0 e to 1 back;way 1 e to 2 back;way 2 e to 3 back;way 3 e to 4 back;"
            + "way 4 e to 5 back;way 5 e to 6 back;way 6 e to 7 back;way 7 e to 8 back;way 8 e to 9 back;"
            + "mark 0 1;mark 9 9;pupil in 0 lies 0 thinks 0;pupil in 1 lies 1 thinks 1 2;"
            + "pupil in 9 lies 2 thinks 0 1 2 3 4 5 6 7 8 9;pupil in 5 lies 3 thinks 4;"
            + "lesson bare 9;lesson lies 3;lesson shut 0 e;lesson lies 1;lesson bare 0;";

    /** Two PLACES and nothing else: as little as there may be. */
    static final String TWO = "wood places 2;";

    private Edges() {
    }

    static LostWood ten() {
        return Support.wood(TEN);
    }

    /** An object with something of all that it can have: TAPE, WOOD, STEPS, SLOTS, images. SLOT 3, image 2 have nothing. */
    static LostWood full() {
        LostWood x = ten();
        x.image(0);
        x.goes(0, 1);
        x.goes(1, 0);
        x.goes(3, 2);
        x.image(1);
        x.goes(2, 1);
        Support.fill(x, 0, 1, 3);
        Support.fill(x, 1, 4, 0);
        x.row(2, 3, 60);
        Support.tell(x, "wood places 3; mark 2 7;");
        return x;
    }

    /** An argument's least and greatest value are allowed, those beyond are refused, near and far. */
    static void bounds(String name, int least, int greatest, int refusal, IntUnaryOperator call) {
        for (int v : new int[] {least, greatest}) {
            int got = call.applyAsInt(v);
            Support.due(name + " of " + v + " is allowed: " + got + ", refused", got < LostWood.NONE ? 1 : 0, 0);
        }
        refusedBelow(name, least, refusal, call);
        refusedAbove(name, greatest, refusal, call);
    }

    static void refusedBelow(String name, int least, int refusal, IntUnaryOperator call) {
        Support.due(name + " of " + (least - 1), call.applyAsInt(least - 1), refusal);
        Support.due(name + " of the least int", call.applyAsInt(Integer.MIN_VALUE), refusal);
    }

    static void refusedAbove(String name, int greatest, int refusal, IntUnaryOperator call) {
        Support.due(name + " of " + (greatest + 1), call.applyAsInt(greatest + 1), refusal);
        Support.due(name + " of the greatest int", call.applyAsInt(Integer.MAX_VALUE), refusal);
    }

    /** WIND i of a WALK: those from 0 up to its length, and none beyond. */
    static void winds(String name, IntUnaryOperator call, int... row) {
        for (int i = 0; i < row.length; i++) {
            Support.due(name + " WIND " + i, call.applyAsInt(i), row[i]);
        }
        refusedBelow(name + " none such", 0, LostWood.NONE, call);
        refusedAbove(name + " none such", row.length - 1, LostWood.NONE, call);
    }

    /** What would() and its like have in common: SLOT, PUPIL, nothing, and a number that is no WIND, asked last. */
    static void walkAsked(String name, OfWalk call) {
        LostWood x = ten();
        for (int slot = 0; slot < 4; slot++) {
            Support.due(name + " nothing", call.ask(x, slot, 3), -6);
            Support.due(name + " no PUPIL, asked ahead of nothing", call.ask(x, slot, 4), -2);
            Support.due(name + " no PUPIL, asked ahead of nothing", call.ask(x, slot, -1), -2);
        }
        Support.due(name + " no SLOT, ahead of nothing", call.ask(x, 4, 0), -2);
        Support.due(name + " no SLOT, no PUPIL", call.ask(x, -1, 4), -2);
        x.row(2, 0, 61);
        Support.due(name + " nothing still", call.ask(x, 2, 0), -6);
        x.row(2, 0, -1);
        Support.due(name + " nothing still", call.ask(x, 2, 0), -6);
        x.row(2, 0, 0);
        Support.due(name + " a row of none is something", call.ask(x, 2, 0) < -1 ? 1 : 0, 0);
        for (int slot = 0; slot < 4; slot++) {
            x.row(slot, slot, 60);
        }
        bounds(name + " SLOT", 0, 3, -2, v -> call.ask(x, v, 0));
        bounds(name + " PUPIL", 0, 3, -2, v -> call.ask(x, 0, v));
        for (int slot = 0; slot < 4; slot++) {
            for (int i : new int[] {0, 1, 58, 59}) {
                for (long no : new long[] {4, -1, 5, 127, Long.MAX_VALUE}) {
                    x.write(slot, i, no);
                    Support.due(name + " no WIND", call.ask(x, slot, 2), -2);
                }
                x.write(slot, i, 3);
                Support.due(name + " the last WIND", call.ask(x, slot, 2) < -1 ? 1 : 0, 0);
            }
        }
        x.write(3, 0, 1L << 32);
        Support.due(name + " no WIND of 8 bytes", call.ask(x, 3, 0), -2);
        x.write(3, 0, Long.MIN_VALUE);
        Support.due(name + " no WIND of 8 bytes", call.ask(x, 3, 0), -2);
        Support.due(name + " no WIND, no PUPIL", call.ask(x, 3, 4), -2);
    }

    interface OfWalk {
        int ask(LostWood x, int slot, int pupil);
    }

    /** Calls that are refused, or ask alone, leave a full object as it was. */
    static void stays(String name, Consumer<LostWood> calls) {
        LostWood touched = full();
        calls.accept(touched);
        same(name, touched, full());
    }

    /** Whether two objects are in one state, by all that later calls can tell of it. It ends both. */
    static void same(String name, LostWood x, LostWood y) {
        List<Integer> got = probe(x);
        List<Integer> want = probe(y);
        Support.due(name + ": how much there is to tell", got.size(), want.size());
        for (int i = 0; i < Math.min(got.size(), want.size()); i++) {
            Support.due(name + ": all stays, answer " + i, got.get(i), want.get(i));
        }
    }

    /** Some 310 calls, so that with its making and what is done to it an object stays below 512. */
    private static List<Integer> probe(LostWood x) {
        List<Integer> out = new ArrayList<>();
        tellCounts(x, out);
        tellWood(x, out, 4);
        tellSlots(x, out);
        tellPupils(x, out);
        for (int n = 0; n < 60; n++) {
            int left = x.undo();
            out.add(left);
            if (left < 0) {
                break;
            }
            tellPupils(x, out);
        }
        for (int k = 2; k >= 0; k--) {
            out.add(x.back(k));
            out.add(x.count(1));
            out.add(x.count(7));
            tellWood(x, out, 2);
            tellPupils(x, out);
        }
        out.add(x.wood());
        tellCounts(x, out);
        tellWood(x, out, 4);
        tellPupils(x, out);
        return out;
    }

    private static void tellCounts(LostWood x, List<Integer> out) {
        for (int what = 0; what <= 8; what++) {
            out.add(x.count(what));
        }
        out.add(x.fault(0));
        out.add(x.fault(1));
    }

    private static void tellWood(LostWood x, List<Integer> out, int winds) {
        int places = x.count(0);
        for (int p = 0; p < places; p++) {
            out.add(x.mark(p));
            for (int wind = 0; wind < winds; wind++) {
                out.add(x.leads(p, wind));
            }
        }
    }

    private static void tellSlots(LostWood x, List<Integer> out) {
        for (int slot = 0; slot < 4; slot++) {
            out.add(x.would(slot, 3));
            out.add(x.read(slot));
            out.add(x.began(slot));
        }
    }

    private static void tellPupils(LostWood x, List<Integer> out) {
        int pupils = x.count(3);
        for (int p = 0; p < pupils; p++) {
            out.add(x.where(p));
            out.add(x.thinks(p));
            out.add(x.pupil(p, 0));
        }
    }

    /** Number i of a SLOT's row, if it is a WIND, else -2; SLOT 3 is used for it. */
    static int peek(int width, LostWood x, int slot, int i) {
        x.row(3, width, 1);
        x.paste(slot, i, 3, 0, 1);
        int at = x.would(3, 0);
        return at < 0 ? at : at - 1;
    }

    /** From PLACE 0 each WIND leads to a PLACE of its own, so that peek() sees which it was. */
    static LostWood star() {
        return Support.wood("wood places 5;way 0 n to 1;way 0 e to 2;way 0 s to 3;way 0 w to 4;pupil in 0 lies 0 thinks 0;");
    }

    /** Without a WOOD each call that asks of one answers -2, whatever it is asked. */
    static void noWood(String name, LostWood x) {
        x.row(0, 0, 2);
        int[] got = {x.leads(0, 0), x.mark(0), x.becomes(1, 0), x.seen(1, 0), x.where(0), x.thinks(0), x.pupil(0, 0),
            x.goes(0, 0), x.most(), x.who(0), x.who(1), x.undo(), x.anew(), x.would(0, 0), x.think(0, 0), x.knows(0, 0),
            x.loses(0, 0), x.doubts(0, 0), x.blur(0, 1), x.blurs(0, 1, 0), x.stray(0), x.strays(0, 0), x.home(0),
            x.homes(0, 0), x.states(0), x.plan(1), x.first(1), x.hardest(), x.alike(0, 0), x.kinds(), x.tells(0, 0),
            x.told(0, 0, 0), x.bares(0, 0), x.bared(0, 0), x.gather(1), x.gathers(1, 0), x.roundabout(1), x.meet(0, 0),
            x.met(0, 0), x.read(0), x.began(0), x.ask(0), x.leaves(0), x.course(0, 0), x.lesson(0, 0, 0), x.spoilt(0, 0),
            x.route(0, 0), x.dark(0, 0), x.detour(0, 0), x.fog(0, 0, 0, 0), x.likely(0, 0), x.can(0, 0), x.lead(0, 0, 0),
            x.marks(0, 0), x.drawn(0, 0, 0, 0), x.luck(0, 1, 0, 0)};
        for (int i = 0; i < got.length; i++) {
            Support.due(name + ": no WOOD, call " + i, got[i], -2);
        }
        for (int what : new int[] {0, 1, 2, 3, 4, 5, 7}) {
            Support.due(name + ": no WOOD, count(" + what + ")", x.count(what), 0);
        }
    }
}
