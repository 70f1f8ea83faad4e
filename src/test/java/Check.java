import java.nio.charset.StandardCharsets;

/** What the tests share: texts onto the tape, answers that are compared, how a test ends. */
final class Check {
    private final String name;
    private int checks = 0;
    private int wrong = 0;

    Check(String name) {
        this.name = name;
    }

    void same(String what, long got, long due) {
        checks++;
        if (got != due) {
            wrong++;
            if (wrong <= 40) {
                System.out.println(name + ": " + what + " answered " + got + ", due is " + due);
            }
        }
    }

    void same(String what, boolean got, boolean due) {
        same(what, got ? 1 : 0, due ? 1 : 0);
    }

    boolean isAllRight() {
        return wrong == 0;
    }

    void end() {
        System.out.println(name + ": " + checks + " checks, " + wrong + " wrong");
        if (wrong != 0) {
            System.exit(1);
        }
    }

    static byte[] bytes(String text) {
        return text.getBytes(StandardCharsets.ISO_8859_1);
    }

    static byte[] bytes(int... numbers) {
        byte[] bytes = new byte[numbers.length];
        for (int i = 0; i < numbers.length; i++) {
            bytes[i] = (byte) numbers[i];
        }
        return bytes;
    }

    static int four(byte[] bytes, int from) {
        int four = 0;
        for (int i = from; i < from + 4; i++) {
            four = four << 8 | (i < bytes.length ? bytes[i] & 255 : 0);
        }
        return four;
    }

    /** Makes the tape these bytes: at most 940. */
    static void tape(ScentCourt court, byte[] bytes) {
        court.end(0);
        for (int i = 0; i < bytes.length; i += 20) {
            court.feed(four(bytes, i), four(bytes, i + 4), four(bytes, i + 8), four(bytes, i + 12), four(bytes, i + 16));
        }
        court.end(bytes.length);
    }

    static void tape(ScentCourt court, String text) {
        tape(court, bytes(text));
    }

    static int hill(ScentCourt court, String text) {
        tape(court, text);
        return court.hill();
    }

    static int pleas(ScentCourt court, String text) {
        tape(court, text);
        return court.pleas();
    }

    static int sentence(ScentCourt court, String text) {
        tape(court, text);
        return court.sentence();
    }

    static String repeat(String text, int times) {
        StringBuilder all = new StringBuilder();
        for (int i = 0; i < times; i++) {
            all.append(text);
        }
        return all.toString();
    }
}
