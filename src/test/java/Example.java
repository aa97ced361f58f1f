import java.nio.charset.StandardCharsets;

/** A small meeting; README.md shows this file and what it prints. */
public final class Example {
    private static final int FLOOR = 0;

    public static void main(String[] args) {
        GymDesk desk = new GymDesk();
        System.out.println("no code: " + code(desk, "part kip 31 in 0;") + ", fault " + desk.fault(0)
            + " at " + desk.fault(1));
        System.out.println("parts: " + code(desk, "part kip 3 in 0; part flip 8 in 1; part twist 6 in 1 as flip;\n"
            + "part salto 9 in 2; link kip salto 2; group 2 needs 1 worth 5; short 2 less 10;\n"
            + "fault step 1 each; fault fall 10; panel 3 span 4; team 2 of 1; final 2 land 1;"));
        int ann = desk.enter(0);
        int bea = desk.enter(1);
        perform(desk, ann, 0, 3, 1);
        perform(desk, bea, 1, 2, GymDesk.NONE, 3);
        System.out.println("D: " + desk.routine(ann, FLOOR, 1) + " and " + desk.routine(bea, FLOOR, 1));
        System.out.println("faults take off: " + desk.see(bea, FLOOR, 0, 0, 1) + ", " + desk.see(bea, FLOOR, 2, 0, 1));
        mark(desk, ann, 10, 12, 11);
        mark(desk, bea, 10, 10, 20);
        System.out.println("asked anew: " + desk.asked(bea, FLOOR) + ", post: " + desk.post(bea, FLOOR, 1));
        desk.mark(bea, FLOOR, 2, 13);
        System.out.println("posted: " + desk.post(ann, FLOOR, 1) + " and " + desk.post(bea, FLOOR, 2));
        System.out.println("fees: " + desk.inquire(bea, FLOOR, 7) + ", mended: " + desk.answer(bea, FLOOR, 1, 3)
            + ", fees: " + desk.fees(1));
        for (int i = 0; i < desk.list(FLOOR); i++) {
            System.out.println("place " + desk.place(FLOOR, i, 2) + ": gymnast " + desk.place(FLOOR, i, 0)
                + " with " + desk.place(FLOOR, i, 1) + ", in the final: " + desk.place(FLOOR, i, 3));
        }
        System.out.println("land 1: " + desk.land(1, 4) + " in all, standing " + desk.standing(1));
    }

    /** Tells a text, four bytes in each int, the highest first, and cuts off the blanks behind it. */
    private static int code(GymDesk desk, String text) {
        byte[] bytes = text.getBytes(StandardCharsets.US_ASCII);
        desk.end(0);
        for (int at = 0; at < bytes.length; at += 20) {
            desk.feed(four(bytes, at), four(bytes, at + 4), four(bytes, at + 8), four(bytes, at + 12),
                four(bytes, at + 16));
        }
        desk.end(bytes.length);
        return desk.code();
    }

    private static int four(byte[] bytes, int at) {
        int word = 0;
        for (int k = at; k < at + 4; k++) {
            word = word << 8 | (k < bytes.length ? bytes[k] & 255 : ' ');
        }
        return word;
    }

    private static void perform(GymDesk desk, int gymnast, int... entries) {
        desk.begin(gymnast, FLOOR);
        for (int part : entries) {
            desk.entry(gymnast, FLOOR, part);
        }
    }

    private static void mark(GymDesk desk, int gymnast, int... marks) {
        for (int judge = 0; judge < marks.length; judge++) {
            desk.mark(gymnast, FLOOR, judge, marks[judge]);
        }
    }
}
