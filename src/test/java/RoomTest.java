import java.lang.management.ManagementFactory;

/** The dearest calls on the hardest woods: 512 of them stay within the room, and end soon. */
public final class RoomTest {
    /** Some 7 million elements would be above this; an object with all its rows is far below. */
    private static final long MOST_BYTES = 2000000;
    private static final long MOST_MILLIS = 20000;

    private RoomTest() {
    }

    public static void main(String[] args) {
        // A round of ten by north, one way by east: gathering all takes (10 - 1) squared WINDS.
        StringBuilder text = new StringBuilder("wood places 10; way 9 e to 0;");
        for (int p = 0; p < 10; p++) {
            text.append("way ").append(p).append(" n to ").append((p + 1) % 10).append(";");
        }
        text.append("way 0 s to 5 back; way 1 w to 2; pupil in 0 lies 1 thinks 0 1 2 3 4 5 6 7 8 9;");
        text.append("lesson bare 0; lesson bare 1; lesson lies 1; lesson lies 2; lesson shut 3 n;");
        deep();
        com.sun.management.ThreadMXBean threads = (com.sun.management.ThreadMXBean) ManagementFactory.getThreadMXBean();
        long before = threads.getCurrentThreadAllocatedBytes();
        long began = System.currentTimeMillis();
        LostWood x = Support.wood(text.toString());
        x.row(0, 3, 60);
        int sum = 0;
        for (int i = 0; i < 420; i++) {
            sum += dear(x, i);
        }
        long took = System.currentTimeMillis() - began;
        long made = threads.getCurrentThreadAllocatedBytes() - before;
        Support.due("bytes made (" + made + ") stay below", made > MOST_BYTES ? 1 : 0, 0);
        Support.due("milliseconds (" + took + ") stay below", took > MOST_MILLIS ? 1 : 0, 0);
        Support.due("sum is one", sum == Integer.MIN_VALUE ? 1 : 0, 0);
        Support.finish("RoomTest");
    }

    private static void deep() {
        StringBuilder text = new StringBuilder("wood places 10; way 9 e to 0;");
        for (int p = 0; p < 10; p++) {
            text.append("way ").append(p).append(" n to ").append((p + 1) % 10).append(";");
        }
        text.append("pupil in 3 lies 0 thinks 0 1 2 3 4 5 6 7 8 9;");
        LostWood x = Support.wood(text.toString());
        Support.due("39 gather", x.gather(1023), 81);
        Support.due("30 plan", x.plan(1023), 81);
        Support.due("27 home", x.home(0), 81);
        Support.due("40 the last", x.gathers(1023, 80), 1);
        Support.due("40 none such", x.gathers(1023, 81), -1);
        Support.due("28 the first", x.homes(0, 0), 1);
    }

    private static int dear(LostWood x, int i) {
        switch (i % 12) {
            case 0:
                return x.states(0);
            case 1:
                return x.blur(0, 11);
            case 2:
                return x.marks(i % 10, i % 7);
            case 3:
                return x.plan(1023);
            case 4:
                return x.hardest();
            case 5:
                return x.kinds();
            case 6:
                return x.bared(i % 10, i / 10 % 10);
            case 7:
                return x.roundabout(1023);
            case 8:
                return x.course(0, 0);
            case 9:
                return x.image(i % 3) + x.back(i % 3);
            case 10:
                return x.luck(i, 20, 0, 40);
            default:
                return x.fog(0, 0, 15, 0) + x.meet(0, 5);
        }
    }
}
