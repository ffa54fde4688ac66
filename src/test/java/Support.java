import java.nio.charset.StandardCharsets;

/** What the tests share: how a text is told, and how a wrong answer is said. */
final class Support {
    private static int wrong = 0;

    private Support() {
    }

    static void due(String call, long got, long want) {
        if (got != want) {
            wrong++;
            if (wrong <= 50) {
                System.out.println(call + " answered " + got + ", due is " + want);
            }
        }
    }

    static void finish(String name) {
        System.out.println(name + ": " + (wrong == 0 ? "all answers are as due" : wrong + " answers are not as due"));
        if (wrong != 0) {
            System.exit(1);
        }
    }

    /** Brings a text behind an empty TAPE and cuts the padding off. */
    static int tell(LostWood x, String text) {
        byte[] bytes = text.getBytes(StandardCharsets.ISO_8859_1);
        for (int i = 0; i < bytes.length; i += 20) {
            x.feed(four(bytes, i), four(bytes, i + 4), four(bytes, i + 8), four(bytes, i + 12), four(bytes, i + 16));
        }
        return x.end(bytes.length);
    }

    private static int four(byte[] bytes, int from) {
        int out = 0;
        for (int i = from; i < from + 4; i++) {
            out = out << 8 | (i < bytes.length ? bytes[i] & 255 : 32);
        }
        return out;
    }

    static LostWood wood(String text) {
        LostWood x = new LostWood();
        tell(x, text);
        if (x.wood() < 0) {
            due("wood() of '" + text + "'", x.fault(0) * 10000 + x.fault(1), 0);
        }
        return x;
    }

    /** A text's FAULT and its place, 0 and NONE without. */
    static void fault(String text, int kind, int place) {
        LostWood x = new LostWood();
        due("3 bytes of '" + text + "'", tell(x, text), text.length());
        due("4 wood() of '" + text + "'", x.wood(), kind == 0 ? x.count(5) : -4);
        due("5 fault(0) of '" + text + "'", x.fault(0), kind);
        due("5 fault(1) of '" + text + "'", x.fault(1), place);
    }

    static void fill(LostWood x, int slot, int... numbers) {
        x.row(slot, 0, numbers.length);
        for (int i = 0; i < numbers.length; i++) {
            x.write(slot, i, numbers[i]);
        }
    }
}
