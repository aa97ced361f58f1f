import java.nio.charset.StandardCharsets;

/** Desks made ready for a test: texts told, codes taken, routines performed. */
final class Desks {
    private Desks() {
    }

    private static int word(byte[] bytes, int at) {
        int four = 0;
        for (int k = 0; k < 4; k++) {
            four = four << 8 | (at + k < bytes.length ? bytes[at + k] & 255 : 32);
        }
        return four;
    }

    /** The tape holds this text alone then. */
    static void tell(GymDesk x, String text) {
        byte[] bytes = text.getBytes(StandardCharsets.ISO_8859_1);
        int have = x.end(0);
        for (int at = 0; at < bytes.length; at += 20) {
            have = x.feed(word(bytes, at), word(bytes, at + 4), word(bytes, at + 8), word(bytes, at + 12),
                word(bytes, at + 16));
        }
        if (have < bytes.length || x.end(bytes.length) != bytes.length) {
            throw new IllegalStateException("a test's text has no room: " + text.length());
        }
    }

    static int code(GymDesk x, String text) {
        tell(x, text);
        return x.code();
    }

    /** A new desk under a code. */
    static GymDesk under(String text) {
        GymDesk x = new GymDesk();
        if (code(x, text) < 0) {
            throw new IllegalStateException("a test's code is none: " + text + " " + x.fault(0) + " " + x.fault(1));
        }
        return x;
    }

    /** A new desk under a code, with gymnast 0 of land 0, whose routine at apparatus 0 has these entries. */
    static GymDesk routine(String text, int... entries) {
        GymDesk x = under(text);
        x.enter(0);
        x.begin(0, 0);
        for (int p : entries) {
            x.entry(0, 0, p);
        }
        return x;
    }

    /** A routine of a new gymnast of a land with these entries and the same mark of every judge; the gymnast. */
    static int perform(GymDesk x, int land, int a, int mark, int... entries) {
        int g = x.enter(land);
        performBy(x, g, a, mark, entries);
        return g;
    }

    static void performBy(GymDesk x, int g, int a, int mark, int... entries) {
        x.begin(g, a);
        for (int p : entries) {
            x.entry(g, a, p);
        }
        markBy(x, g, a, mark);
    }

    /** The same mark of every judge of the panel. */
    static void markBy(GymDesk x, int g, int a, int mark) {
        int judges = x.count(3);
        for (int j = 0; j < judges; j++) {
            x.mark(g, a, j, mark);
        }
    }

    /** A name of no other number; none of these is a word of the lines. */
    static String name(int n) {
        return "x" + (char) ('a' + n / 26) + (char) ('a' + n % 26);
    }

    static String parts(int howMany, int worth, int group) {
        StringBuilder text = new StringBuilder();
        for (int n = 0; n < howMany; n++) {
            text.append("part ").append(name(n)).append(' ').append(worth).append(" in ").append(group).append(';');
        }
        return text.toString();
    }

    static String faults(int howMany, int off) {
        StringBuilder text = new StringBuilder();
        for (int n = 0; n < howMany; n++) {
            text.append("fault ").append(name(n)).append(' ').append(off).append(';');
        }
        return text.toString();
    }

    /** So many links, the first ones of the first of so many parts. */
    static String links(int howMany, int parts) {
        StringBuilder text = new StringBuilder();
        for (int n = 0; n < howMany; n++) {
            text.append("link ").append(name(n / parts)).append(' ').append(name(n % parts)).append(" 1;");
        }
        return text.toString();
    }

    /** The parts 0, 1, .. in order. */
    static int[] run(int howMany) {
        int[] parts = new int[howMany];
        for (int n = 0; n < howMany; n++) {
            parts[n] = n;
        }
        return parts;
    }

    static String blanks(int howMany) {
        return " ".repeat(Math.max(0, howMany));
    }
}
