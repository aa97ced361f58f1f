/** The bounds that the document names of routines, marks, scores and inquiries: "Terms" II, promises 7 to 16. */
final class MeetingBounds {
    private static final int MOST = Integer.MAX_VALUE;
    private static final int LEAST = Integer.MIN_VALUE;
    private static final int TORN = -1;

    private final Sheet sheet;

    MeetingBounds(Sheet sheet) {
        this.sheet = sheet;
    }

    void run() {
        numbersOfTheMeeting();
        tornAndRepeats();
        partsThatCount();
        groupsAndShort();
        choices();
        linksOfEntries();
        marks();
        executions();
        scores();
        clock();
        promise7();
        promise8();
        promise9();
        promise10();
        promise11();
        promise12();
        promise13();
        promise14();
        promise15();
        promise16();
    }

    private static int worthOf(String text, int... entries) {
        return Desks.routine(text, entries).routine(0, 0, 1);
    }

    private void worth(String text, int due, int... entries) {
        sheet.due("D under «" + text + "» of " + entries.length + " entries", worthOf(text, entries), due);
    }

    private void choice(String text, int worth, int choice, int... entries) {
        GymDesk x = Desks.routine(text, entries);
        sheet.due("D under «" + text + "»", x.routine(0, 0, 1), worth);
        sheet.due("CHOICE under «" + text + "»", x.routine(0, 0, 2), choice);
        sheet.due("CHOICE alone", Desks.routine(text, entries).routine(0, 0, 2), choice);
    }

    private void numbersOfTheMeeting() {
        sheet.section("Terms");
        sheet.says("II. MEETING. LANDS 0 .. 9; GYMNASTS, at most 40, numbered from 0 as they are entered; APPARATUSES"
            + " 0 .. 3.");
        GymDesk x = new GymDesk();
        sheet.due("land -1", x.enter(-1), -2);
        sheet.due("land 10", x.enter(10), -2);
        for (int g = 0; g < 40; g++) {
            sheet.due("gymnast " + g, x.enter(9 - g % 10), g);
        }
        sheet.due("the 41st", x.enter(0), -3);
        for (int a = 0; a < 4; a++) {
            sheet.due("apparatus " + a, x.begin(39, a), 1);
        }
        sheet.due("apparatus 4", x.begin(39, 4), -2);
        sheet.due("apparatus -1", x.begin(39, -1), -2);
        sheet.says("A ROUTINE of a GYMNAST at an APPARATUS, once each: entries, at most 16, each a part, or TORN.");
        x = Desks.under(Desks.parts(16, 1, 0));
        x.enter(0);
        x.enter(0);
        sheet.due("once", x.begin(0, 0), 1);
        sheet.due("twice", x.begin(0, 0), -1);
        sheet.due("another gymnast", x.begin(1, 0), 2);
        sheet.due("another apparatus", x.begin(0, 1), 1);
        for (int n = 1; n <= 16; n++) {
            sheet.due("entry " + n, x.entry(0, 0, n - 1), n);
            sheet.due("torn " + n, x.entry(1, 0, TORN), n);
        }
        sheet.due("the 17th", x.entry(0, 0, 0), -3);
        sheet.due("the 17th torn", x.entry(1, 0, TORN), -3);
        sheet.due("sixteen", x.routine(0, 0, 0), 16);
        sheet.due("the other is without", x.routine(0, 1, 0), 0);
    }

    private void tornAndRepeats() {
        sheet.section("Terms");
        sheet.says("Those from the first TORN one on don't count.");
        String text = Desks.parts(16, 1, 0) + "counts 10;";
        for (int torn = 0; torn < 16; torn++) {
            int[] entries = Desks.run(16);
            entries[torn] = TORN;
            worth(text, Math.min(10, torn), entries);
            choice(text, Math.min(10, torn), (1 << Math.min(10, torn)) - 1, entries);
            entries[15] = TORN;
            worth(text, Math.min(10, torn), entries);
        }
        worth(text, 1, 0, TORN, 1, TORN, 2);
        sheet.says("An entry that counts is a REPEAT if an earlier one is of its KIND.");
        String kinds = "part a 1 in 0; part b 2 in 0; part c 4 in 0 as a; part d 8 in 0 as c; ";
        repeats(kinds, 0, 1, 0);
        repeats(kinds, 1, 1, 0, 0);
        repeats(kinds, 1, 1, 0, 2);
        repeats(kinds, 1, 4, 2, 0);
        repeats(kinds, 2, 8, 3, 2, 0);
        repeats(kinds, 1, 3, 0, 1, 3);
        repeats(kinds, 0, 1, 0, TORN, 0);
        repeats(kinds, 0, 0, TORN, 0, 0);
        repeats(kinds, 1, 3, 0, 1, 0, TORN, 1);
        int[] far = Desks.run(16);
        far[15] = 0;
        repeats(text, 1, 10, far);
        repeats(text, 15, 1, new int[16]);
        choice(kinds, 3, 3, 0, 1, 2, 3);
        choice(kinds, 10, 3, 3, 1, 2, 0);
    }

    private void repeats(String text, int due, int worth, int... entries) {
        GymDesk x = Desks.routine(text, entries);
        sheet.due("REPEATS of " + entries.length, x.routine(0, 0, 7), due);
        sheet.due("D with them", x.routine(0, 0, 1), worth);
    }

    private void partsThatCount() {
        sheet.section("Terms");
        sheet.says("A CHOICE: some entries that count and are no REPEATS, at most as many as told, of each group no more"
            + " than its limit.");
        String twelve = Desks.parts(12, 2, 3);
        for (int n = 1; n <= 10; n++) {
            worth(twelve + "counts " + n + ";", 2 * n, Desks.run(12));
            worth(twelve + "counts " + n + ";", 2 * n, Desks.run(n));
            worth(twelve + "counts " + n + ";", 2 * n - 2, Desks.run(n - 1));
        }
        for (int g = 0; g < 5; g++) {
            for (int n = 0; n <= 10; n++) {
                worth(Desks.parts(12, 2, g) + "counts 10; limit " + n + " of " + g + ";", 2 * n, Desks.run(12));
                worth(Desks.parts(12, 2, g) + "counts 10; limit " + n + " of " + (g + 1) % 5 + ";", 20, Desks.run(12));
            }
        }
        String two = Desks.parts(4, 2, 0) + "part y 1 in 1; part z 1 in 1; ";
        worth(two + "limit 2 of 0;", 6, Desks.run(6));
        worth(two + "limit 2 of 0; limit 1 of 1;", 5, Desks.run(6));
        worth(two + "limit 0 of 0; limit 0 of 1;", 0, Desks.run(6));
        worth(two + "limit 2 of 0; counts 3;", 5, Desks.run(6));
        sheet.says("limit: at most N 0 .. 10 of G count.");
        worth(two + "limit 4 of 0;", 10, Desks.run(6));
        worth(two + "limit 3 of 0;", 8, Desks.run(6));
        worth(two + "limit 0 of 0;", 2, Desks.run(6));
        worth(twelve + "counts 10; limit 10 of 3;", 20, Desks.run(12));
        sheet.says("counts: at most N 1 .. 10 count in all (8 at first).");
        worth(twelve, 16, Desks.run(12));
        worth(twelve, 16, Desks.run(8));
        worth(twelve, 14, Desks.run(7));
        worth(twelve + "counts 8;", 16, Desks.run(12));
        worth(twelve + "counts 1;", 2, Desks.run(12));
        worth(twelve + "counts 10;", 20, Desks.run(12));
    }

    private void groupsAndShort() {
        sheet.section("Terms");
        sheet.says("group: at least N 1 .. 10 that count of it are worth N 1 .. 20 more.");
        for (int n = 1; n <= 10; n++) {
            for (int g = 0; g < 5; g++) {
                String text = Desks.parts(12, 2, g) + "counts 10; group " + g + " needs " + n + " worth ";
                worth(text + "20;", 2 * n + 20, Desks.run(n));
                worth(text + "1;", 2 * n + 1, Desks.run(n));
                worth(text + "20;", 2 * n - 2, Desks.run(n - 1));
                worth(text + "20;", 2 * Math.min(10, n + 1) + 20, Desks.run(n + 1));
            }
        }
        String two = "part a 2 in 0; part b 2 in 0; part c 2 in 1; part d 2 in 0 as a; group 0 needs 2 worth 9; ";
        worth(two, 4, 0, 2);
        worth(two, 13, 0, 1);
        worth(two, 2, 0, 3);
        worth(two, 2, 0, TORN, 1);
        worth(two + "limit 1 of 0;", 2, 0, 1);
        worth(two + "counts 1;", 2, 0, 1);
        worth(two + "group 1 needs 1 worth 20;", 35, 0, 1, 2);
        sheet.says("short: if fewer than N 1 .. 10 count, N 1 .. 99 less.");
        for (int n = 1; n <= 10; n++) {
            String text = Desks.parts(12, 30, 0) + "counts 10; short " + n + " less ";
            worth(text + "1;", n == 1 ? 0 : 30 * (n - 1) - 1, Desks.run(n - 1));
            worth(text + "99;", Math.max(0, 30 * (n - 1) - 99), Desks.run(n - 1));
            worth(text + "99;", 30 * n, Desks.run(n));
            worth(text + "99;", Math.min(10, n + 1) * 30, Desks.run(n + 1));
        }
        worth(Desks.parts(4, 30, 0) + "counts 2; short 3 less 5;", 55, Desks.run(4));
        worth("part a 30 in 0; part b 30 in 0; part c 1 in 0 as a; short 3 less 5;", 55, 0, 1, 2);
        sheet.says("Its worth: those of its parts, of each group that has as many as it needs, of each link whose both"
            + " entries, one directly behind the other, are in it; less what short tells.");
        worth("part a 30 in 4; part b 1 in 0; link a b 9; group 4 needs 1 worth 20; group 0 needs 1 worth 1;"
            + "short 2 less 99;", 61, 0, 1);
        worth("part a 30 in 4; part b 1 in 0; link a b 9; group 4 needs 1 worth 20; group 0 needs 1 worth 1;"
            + "short 3 less 61;", 0, 0, 1);
        worth("part a 30 in 4; part b 1 in 0; link a b 9; group 4 needs 1 worth 20; group 0 needs 1 worth 1;"
            + "short 3 less 60;", 1, 0, 1);
    }

    private void choices() {
        sheet.section("Terms");
        sheet.says("The D of a ROUTINE: the greatest worth of a CHOICE (none may be chosen, too), 0 if that is below 0;");
        choice("", 0, 0);
        choice("part a 3 in 0;", 0, 0, TORN);
        choice("part a 3 in 0; limit 0 of 0;", 0, 0, 0);
        choice("part a 3 in 0; short 1 less 9; limit 0 of 0;", 0, 0, 0);
        choice("part a 3 in 0; short 2 less 2;", 1, 1, 0);
        choice("part a 3 in 0; short 2 less 3;", 0, 1, 0);
        choice("part a 3 in 0; short 2 less 4;", 0, 1, 0);
        choice("part a 3 in 0; short 2 less 99;", 0, 1, 0);
        choice("part a 1 in 0; part b 9 in 1; counts 1;", 9, 2, 0, 1);
        choice("part a 1 in 0; part b 9 in 1; part c 9 in 1; group 0 needs 1 worth 9; counts 2;", 19, 3, 0, 1, 2);
        choice("part a 1 in 0; part b 9 in 1; part c 9 in 1; group 0 needs 1 worth 7; counts 2;", 18, 6, 0, 1, 2);
        greatest();
        sheet.says("of CHOICES of the greatest worth the one told is the least as a set (bit i: entry i).");
        choice(Desks.parts(3, 5, 0) + "counts 1;", 5, 1, 2, 1, 0);
        choice(Desks.parts(3, 5, 0) + "counts 2;", 10, 3, 2, 1, 0);
        choice(Desks.parts(16, 5, 0) + "counts 10;", 50, 1023, Desks.run(16));
        choice("part a 4 in 0; part b 2 in 0; part c 2 in 0; limit 2 of 0;", 6, 3, 0, 1, 2);
        choice("part a 2 in 0; part b 2 in 0; part c 4 in 0; limit 2 of 0;", 6, 5, 0, 1, 2);
        choice("part a 4 in 0; part b 3 in 1; part c 1 in 1; limit 1 of 1; counts 2; group 1 needs 1 worth 1;", 8, 3,
            0, 1, 2);
        choice("part a 3 in 0; part b 3 in 0; part c 6 in 1; counts 2; limit 0 of 1;", 6, 3, 0, 1, 2);
        choice("part a 1 in 0; part b 1 in 1; part c 2 in 2; link a b 1; counts 2;", 3, 3, 0, 1, 2);
        choice("part a 2 in 0; part b 1 in 1; part c 1 in 2; link b c 1; counts 2;", 3, 3, 0, 1, 2);
        choice("part a 1 in 0; part b 1 in 1; part c 3 in 2; part d 3 in 3; link a b 4; counts 2;", 6, 3, 2, 3, 0, 1);
        choice("part a 1 in 0; part b 1 in 1; part c 3 in 2; part d 3 in 3; link a b 5; counts 2;", 7, 12, 2, 3, 0, 1);
    }

    /** The greatest routine that a code can tell: ten of 30, nine links of 9 and five groups of 20. */
    private void greatest() {
        StringBuilder text = new StringBuilder();
        for (int p = 0; p < 16; p++) {
            text.append("part ").append(Desks.name(p)).append(" 30 in ").append(p % 5).append(';');
            text.append(p > 0 ? "link " + Desks.name(p - 1) + " " + Desks.name(p) + " 9;" : "");
        }
        for (int g = 0; g < 5; g++) {
            text.append("group ").append(g).append(" needs 2 worth 20;");
        }
        choice(text + "counts 10;", 481, 1023, Desks.run(16));
        GymDesk x = Desks.routine(text + "counts 10; panel 1 span 0;", Desks.run(16));
        x.mark(0, 0, 0, 0);
        sheet.due("the greatest score", x.post(0, 0, 0), 58100);
    }

    private void linksOfEntries() {
        sheet.section("Terms");
        sheet.says("link: of two parts told ahead (also one with itself), the second one directly behind the first,"
            + " worth N 1 .. 9.");
        String text = "part a 2 in 0; part b 2 in 1; part c 2 in 2; part d 2 in 3 as b; link a b 9; ";
        worth(text, 13, 0, 1);
        worth(text, 4, 1, 0);
        worth(text, 6, 0, 2, 1);
        worth(text, 4, 0, 0, 1);
        worth(text, 4, 0, 3);
        worth(text, 2, 0, TORN, 1);
        worth(text + "counts 1;", 2, 0, 1);
        worth(text + "limit 0 of 1;", 2, 0, 1);
        worth(text, 4, 1, 0, 1);
        worth(text, 13, 0, 1, 0, 1);
        worth("part a 2 in 0; link a a 9;", 2, 0, 0);
        worth("part a 2 in 0; part b 2 in 0; link a b 1; link b a 2;", 5, 0, 1);
        worth("part a 2 in 0; part b 2 in 0; link a b 1; link b a 2;", 6, 1, 0);
        worth("part a 2 in 0; part b 2 in 1; part c 2 in 2; link a b 1; link b c 2;", 9, 0, 1, 2);
        String far = Desks.parts(16, 1, 0) + "link xao xap 9; counts 10;";
        choice(far, 19, 0xc000 | 255, Desks.run(16));
        String most = Desks.parts(21, 1, 0);
        for (int p = 0; p < 20; p++) {
            most += "link " + Desks.name(p) + " " + Desks.name(p + 1) + " 9;";
        }
        worth(most, 11, 19, 20);
        worth(most, 2, 20, 19);
        worth(most, 8 + 63, 20, 0, 1, 2, 3, 4, 5, 6, 7);
    }

    /** The marks of a panel of as many judges as marks, told in order; which judges are asked then. */
    private void asked(int span, int due, int... marks) {
        GymDesk x = Desks.routine("panel " + marks.length + " span " + span + ";");
        for (int j = 0; j < marks.length; j++) {
            sheet.due("asked ahead of mark " + j, x.asked(0, 0), 0);
            sheet.due("mark " + j, x.mark(0, 0, j, marks[j]), j + 1);
        }
        sheet.due("asked of " + marks.length + " by a span of " + span, x.asked(0, 0), due);
    }

    private void marks() {
        sheet.section("Terms");
        sheet.says("MARKS: each judge of the panel tells 0 .. 100 off.");
        GymDesk x = Desks.routine("panel 2 span 50;");
        sheet.due("-1", x.mark(0, 0, 0, -1), -2);
        sheet.due("101", x.mark(0, 0, 0, 101), -2);
        sheet.due("100", x.mark(0, 0, 0, 100), 1);
        sheet.due("0", x.mark(0, 0, 1, 0), 2);
        sheet.says("When all have, one whose mark is farther than the span from the MIDDLE (of the marks in order the"
            + " one with (how many less 1) / 2 below it, cut) is ASKED anew;");
        for (int span = 0; span <= 50; span++) {
            asked(span, 0, 49, 49, 49 + span);
            asked(span, 4, 49, 49, 50 + span);
            asked(span, 0, 51, 51, 51 - span);
            asked(span, 4, 51, 51, 50 - span);
        }
        asked(0, 0, 7);
        asked(0, 2, 6, 7);
        asked(0, 1, 7, 6);
        asked(1, 5, 7, 9, 11);
        asked(1, 0b1101, 4, 6, 8, 10);
        asked(0, 0b0111, 8, 4, 10, 6);
        asked(0, 0b11011, 1, 9, 5, 3, 7);
        asked(0, 0b111011, 1, 9, 5, 3, 7, 11);
        asked(2, 0b100011, 1, 9, 5, 3, 7, 8);
        asked(0, 0, 6, 6, 6, 6, 6, 6);
        asked(50, 0b111000, 0, 0, 0, 100, 51, 51);
        asked(50, 0, 0, 0, 0, 50, 50, 50);
        sheet.says("panel: N judges 1 .. 6 (4 at first), a span N 0 .. 50 (3 at first).");
        judgesAtFirst();
        sheet.says("the second mark of a judge stands in place of the first, whatever it is.");
        secondMarks();
    }

    private void judgesAtFirst() {
        GymDesk x = Desks.routine("");
        sheet.due("judge 4 at first", x.mark(0, 0, 4, 0), -2);
        int[] marks = {50, 50, 53, 54};
        for (int j = 0; j < 4; j++) {
            sheet.due("judge " + j + " at first", x.mark(0, 0, j, marks[j]), j + 1);
        }
        sheet.due("a span of 3 at first", x.asked(0, 0), 8);
        for (int n = 1; n <= 6; n++) {
            x = Desks.routine("panel " + n + " span 0;");
            sheet.due("judge " + n + " of " + n, x.mark(0, 0, n, 5), -2);
            for (int j = n - 1; j >= 0; j--) {
                sheet.due("posted without judge " + j, x.post(0, 0, 0), -1);
                sheet.due("judge " + j + " of " + n, x.mark(0, 0, j, 5), n - j);
            }
            sheet.due("posted", x.post(0, 0, 0), 9500);
        }
    }

    private void secondMarks() {
        GymDesk x = Desks.routine("panel 3 span 0;");
        x.mark(0, 0, 0, 10);
        sheet.due("a second mark of one who isn't asked", x.mark(0, 0, 0, 11), -1);
        x.mark(0, 0, 1, 20);
        x.mark(0, 0, 2, 30);
        sheet.due("asked", x.asked(0, 0), 5);
        sheet.due("the middle isn't", x.mark(0, 0, 1, 20), -1);
        sheet.due("0", x.mark(0, 0, 2, 0), 3);
        sheet.due("it is asked no more", x.asked(0, 0), 1);
        sheet.due("a third mark", x.mark(0, 0, 2, 20), -1);
        sheet.due("one is asked still", x.post(0, 0, 0), -1);
        sheet.due("a mark that can't be", x.mark(0, 0, 0, 101), -2);
        sheet.due("it is asked still", x.asked(0, 0), 1);
        sheet.due("100", x.mark(0, 0, 0, 100), 3);
        sheet.due("none", x.asked(0, 0), 0);
        sheet.due("posted by 100, 20, 0", x.post(0, 0, 0), 10000 - 4000);
        x = Desks.routine("panel 2 span 0;");
        x.mark(0, 0, 0, 10);
        x.mark(0, 0, 1, 90);
        sheet.due("the same once more", x.mark(0, 0, 1, 90), 2);
        sheet.due("not asked again", x.asked(0, 0), 0);
        sheet.due("posted by 10, 90", x.post(0, 0, 0), 5000);
    }

    /** E of a panel of as many judges as marks, none of whom is asked, or all who are say the same once more. */
    private void execution(int due, int... marks) {
        GymDesk x = Desks.routine("panel " + marks.length + " span 50;");
        for (int j = 0; j < marks.length; j++) {
            x.mark(0, 0, j, marks[j]);
        }
        for (int j = 0; j < marks.length; j++) {
            x.mark(0, 0, j, marks[j]);
        }
        sheet.due("SCORE of a panel of " + marks.length, x.post(0, 0, 0), 10000 - due);
        sheet.due("E of a panel of " + marks.length, x.routine(0, 0, 9), due);
    }

    private void executions() {
        sheet.section("Terms");
        sheet.says("E: of a panel of 4 or more without one highest and one lowest, else of all: the sum times 100 over"
            + " how many, cut: thousandths.");
        execution(0, 0);
        execution(10000, 100);
        execution(5000, 0, 100);
        execution(150, 1, 2);
        execution(3333, 0, 0, 100);
        execution(6666, 100, 100, 0);
        execution(233, 1, 2, 4);
        execution(5000, 0, 100, 0, 100);
        execution(450, 1, 4, 5, 9);
        execution(500, 5, 5, 5, 9);
        execution(500, 1, 5, 5, 5);
        execution(7000, 70, 70, 70, 70);
        execution(433, 9, 7, 5, 1, 0);
        execution(533, 5, 9, 5, 5, 6);
        execution(6666, 100, 0, 100, 0, 100);
        execution(475, 1, 2, 4, 6, 7, 10);
        execution(525, 5, 5, 5, 5, 6, 90);
        execution(10000, 100, 100, 100, 100, 100, 100);
    }

    private void scores() {
        sheet.section("Terms");
        sheet.says("SCORE, in thousandths: 100 D and 10000 less E less 100 for each tenth that faults take off; 0 if that"
            + " is below 0.");
        String text = "part a 3 in 0; fault f 50; fault h 1; fault k 2; panel 3 span 50; ";
        scoreOf(text, 10300, new int[] {0, 0, 0});
        scoreOf(text, 300, new int[] {100, 100, 100});
        scoreOf(text, 0, new int[] {100, 100, 100}, 1, 2);
        scoreOf(text, 100, new int[] {100, 100, 100}, 2);
        scoreOf(text, 300, new int[] {50, 50, 50}, 0);
        scoreOf(text, 34, new int[] {52, 52, 51}, 0, 1);
        scoreOf(text, 0, new int[] {52, 52, 52}, 0, 1);
        scoreOf(text, 0, new int[] {53, 52, 52}, 0, 1);
        String six = text.replace("panel 3", "panel 6");
        scoreOf(six, 25, new int[] {51, 52, 52, 52, 51, 52}, 0, 1);
        scoreOf(six, 0, new int[] {52, 52, 52, 52, 52, 52}, 0, 1);
        scoreOf(six, 0, new int[] {52, 52, 52, 53, 52, 53}, 0, 1);
        scoreOf(text, 0, new int[] {100, 100, 100}, 0, 1, 2);
        sheet.says("fault: N 1 .. 50 off, once a routine, or with each once an entry.");
        faultsSeen();
        sheet.says("All numbers are tenths where they are worths, marks, spans or off.");
        scoreOf("part a 1 in 0; panel 1 span 0;", 10100, new int[] {0});
        scoreOf("panel 1 span 0;", 9900, new int[] {1});
        scoreOf("part a 1 in 0; fault f 1; panel 1 span 0;", 10000, new int[] {0}, 0);
        scoreOf("part a 30 in 0; group 0 needs 1 worth 1; panel 1 span 0;", 13100, new int[] {0});
    }

    /** The score of a routine of part 0 with these marks and faults. */
    private void scoreOf(String text, int due, int[] marks, int... faults) {
        GymDesk x = Desks.routine(text, 0);
        x.entry(0, 0, TORN);
        for (int f : faults) {
            x.see(0, 0, 0, f, 1);
        }
        for (int j = 0; j < marks.length; j++) {
            x.mark(0, 0, j, marks[j]);
        }
        sheet.due("SCORE under «" + text + "»", x.post(0, 0, 0), due);
        sheet.due("SCORE told", x.routine(0, 0, 8), due);
    }

    private void faultsSeen() {
        GymDesk x = Desks.routine(Desks.faults(8, 3) + "fault once 50; fault often 50 each; part a 1 in 0;"
            + "panel 6 span 0;", new int[16]);
        for (int i = 0; i < 16; i++) {
            sheet.due("each, entry " + i, x.see(0, 0, i % 6, 9, i), 50 * (i + 1));
            sheet.due("each, entry " + i + " again", x.see(0, 0, (i + 1) % 6, 9, i), 50 * (i + 1));
        }
        for (int i = 0; i < 16; i++) {
            sheet.due("once, entry " + i, x.see(0, 0, i % 6, 8, i), 850);
        }
        sheet.due("another fault", x.see(0, 0, 5, 0, 15), 853);
        sheet.due("told", x.routine(0, 0, 3), 853);
        x = Desks.routine(Desks.faults(10, 50).replace(";", " each;") + "part a 1 in 0;", new int[16]);
        for (int n = 0; n < 160; n++) {
            sheet.due("all faults at all entries", x.see(0, 0, 0, n / 16, n % 16), 50 * (n + 1));
        }
        x = Desks.routine("fault a 1; fault b 1 each; part a 1 in 0;", 0, 0);
        sheet.due("a least one", x.see(0, 0, 0, 0, 1), 1);
        sheet.due("once", x.see(0, 0, 0, 0, 0), 1);
        sheet.due("a least one of each", x.see(0, 0, 0, 1, 1), 2);
        sheet.due("each", x.see(0, 0, 0, 1, 0), 3);
    }

    /** Gymnasts of land 0 who have each a routine of part 0 with all its marks at apparatus 0. */
    private static GymDesk performed(int howMany) {
        GymDesk x = Desks.under("part a 3 in 0; part b 4 in 0; part c 3 in 0; fault f 1; panel 1 span 0; team 6 of 6;");
        for (int n = 0; n < howMany; n++) {
            Desks.perform(x, 0, 0, 0, 0);
        }
        return x;
    }

    private void clock() {
        sheet.section("Terms");
        sheet.says("CLOCK: post(), inquire() tell a time, not below the latest one told.");
        GymDesk x = performed(5);
        sheet.due("below 0", x.post(0, 0, -1), -2);
        sheet.due("the least", x.post(0, 0, LEAST), -2);
        sheet.due("0", x.post(0, 0, 0), 10300);
        sheet.due("3", x.post(1, 0, 3), 10300);
        sheet.due("2 for a post", x.post(2, 0, 2), -2);
        sheet.due("2 for an inquiry", x.inquire(1, 0, 2), -2);
        sheet.due("3 for an inquiry", x.inquire(1, 0, 3), 1);
        sheet.due("4 for an inquiry", x.inquire(0, 0, 4), 2);
        sheet.due("3 for a post", x.post(2, 0, 3), -2);
        sheet.due("4 for a post", x.post(2, 0, 4), 10300);
        sheet.due("the most", x.post(3, 0, MOST), 10300);
        sheet.due("the most less 1", x.post(4, 0, MOST - 1), -2);
        sheet.due("the most again", x.post(4, 0, MOST), 10300);
        sheet.says("A SCORE may be inquired after once, till 5 behind its posting.");
        for (int behind = 0; behind <= 7; behind++) {
            for (int posted : new int[] {0, 1, 100, MOST - 7}) {
                x = performed(1);
                x.post(0, 0, posted);
                sheet.due(behind + " behind " + posted, x.inquire(0, 0, posted + behind), behind <= 5 ? 1 : -1);
                sheet.due("once", x.inquire(0, 0, posted + 7), -1);
            }
        }
        x = performed(1);
        x.post(0, 0, MOST - 3);
        sheet.due("as late as can be", x.inquire(0, 0, MOST), 1);
        x = performed(1);
        x.post(0, 0, 0);
        sheet.due("the most behind 0", x.inquire(0, 0, MOST), -1);
    }

    private void promise7() {
        sheet.section("Promise 7: enter");
        sheet.says("A GYMNAST of a LAND is entered: the number; RANGE; FULL.");
        GymDesk x = new GymDesk();
        for (int land : new int[] {-1, 10, LEAST, MOST}) {
            sheet.due("land " + land, x.enter(land), -2);
        }
        for (int g = 0; g < 40; g++) {
            sheet.due("gymnast " + g, x.enter(g / 4), g);
        }
        sheet.due("the 41st", x.enter(9), -3);
        sheet.due("the 41st once more", x.enter(0), -3);
        sheet.due("the 41st of no land", x.enter(10), -2);
        sheet.due("forty still", x.count(12), 40);
        sheet.due("the last one's routine", x.begin(39, 3), 1);
        sheet.due("no 41st's routine", x.begin(40, 3), -2);
    }

    private void promise8() {
        sheet.section("Promise 8: begin");
        sheet.says("A ROUTINE begins, without entries: how many of the LAND have one at this APPARATUS;");
        GymDesk x = Desks.under("part a 1 in 0; team 6 of 1;");
        for (int g = 0; g < 12; g++) {
            x.enter(g % 2);
            sheet.due("gymnast " + g, x.begin(g, 3), g / 2 + 1);
            sheet.due("entries", x.routine(g, 3, 0), 0);
            sheet.due("entry 0", x.routine(g, 3, 20), -9);
        }
        sheet.due("another apparatus", x.begin(11, 0), 1);
        sheet.says("RANGE: no such;");
        for (int none : new int[] {-1, 12, 40, LEAST, MOST}) {
            sheet.due("gymnast " + none, x.begin(none, 0), -2);
        }
        for (int none : new int[] {-1, 4, LEAST, MOST}) {
            sheet.due("apparatus " + none, x.begin(0, none), -2);
        }
        sheet.says("NONE: there is one already;");
        sheet.due("one is there", x.begin(11, 0), -1);
        sheet.due("one is there, the team full", x.begin(0, 3), -1);
        x.entry(11, 0, 0);
        sheet.due("with entries", x.begin(11, 0), -1);
        sheet.due("they stay", x.routine(11, 0, 0), 1);
        Desks.markBy(x, 11, 0, 0);
        x.post(11, 0, 0);
        sheet.due("posted", x.begin(11, 0), -1);
        sheet.says("FULL: the LAND has as many there as a team has.");
        for (int team = 0; team <= 6; team++) {
            GymDesk y = Desks.under(team == 0 ? "" : "team " + team + " of 1;");
            int most = team == 0 ? 4 : team;
            for (int g = 0; g < most + 1; g++) {
                y.enter(9);
                sheet.due(g + " ahead of it, a team of " + most, y.begin(g, 2), g < most ? g + 1 : -3);
            }
            y.enter(8);
            sheet.due("another land", y.begin(most + 1, 2), 1);
            sheet.due("another apparatus", y.begin(most, 1), 1);
            sheet.due("none began", y.routine(most, 2, 0), -9);
            y.withdraw(0, 2);
            sheet.due("full still", y.begin(most, 2), -3);
        }
    }

    private void promise9() {
        sheet.section("Promise 9: entry");
        sheet.says("One more entry of a ROUTINE: part p, or TORN (NONE): how many;");
        GymDesk x = Desks.under(Desks.parts(30, 1, 0));
        x.enter(0);
        x.enter(0);
        x.begin(0, 3);
        sheet.due("part 29", x.entry(0, 3, 29), 1);
        sheet.due("part 0", x.entry(0, 3, 0), 2);
        sheet.due("torn", x.entry(0, 3, -1), 3);
        sheet.due("behind a torn one", x.entry(0, 3, 5), 4);
        int[] due = {29, 0, -1, 5, -9};
        for (int i = 0; i < due.length; i++) {
            sheet.due("entry " + i, x.routine(0, 3, 20 + i), due[i]);
        }
        sheet.says("RANGE: no such;");
        for (int none : new int[] {-2, 30, LEAST, MOST}) {
            sheet.due("part " + none, x.entry(0, 3, none), -2);
        }
        for (int none : new int[] {-1, 2, LEAST, MOST}) {
            sheet.due("gymnast " + none, x.entry(none, 3, 0), -2);
        }
        for (int none : new int[] {-1, 4, LEAST, MOST}) {
            sheet.due("apparatus " + none, x.entry(0, none, 0), -2);
        }
        sheet.due("no code's part", Desks.routine("").entry(0, 0, 0), -2);
        sheet.says("NONE: no ROUTINE, or it is posted;");
        sheet.due("no routine", x.entry(1, 3, 0), -1);
        sheet.due("no routine at 0", x.entry(0, 0, 0), -1);
        sheet.due("no routine, torn", x.entry(1, 3, -1), -1);
        Desks.performBy(x, 1, 0, 0, 1);
        sheet.due("not posted", x.entry(1, 0, 2), 2);
        x.post(1, 0, 0);
        sheet.due("posted", x.entry(1, 0, 3), -1);
        sheet.due("posted, torn", x.entry(1, 0, -1), -1);
        sheet.due("two entries still", x.routine(1, 0, 0), 2);
        sheet.says("FULL.");
        for (int n = 5; n <= 16; n++) {
            sheet.due("entry", x.entry(0, 3, n), n);
        }
        sheet.due("the 17th", x.entry(0, 3, 1), -3);
        sheet.due("the 17th torn", x.entry(0, 3, -1), -3);
        sheet.due("sixteen still", x.routine(0, 3, 0), 16);
        sheet.due("the sixteenth still", x.routine(0, 3, 35), 16);
    }

    private void promise10() {
        sheet.section("Promise 10: mark");
        sheet.says("A judge's mark: how many judges have marked;");
        GymDesk x = Desks.routine("panel 6 span 50;");
        x.enter(0);
        for (int j = 5; j >= 0; j--) {
            sheet.due("judge " + j, x.mark(0, 0, j, j == 0 ? 100 : 0), 6 - j);
            sheet.due("marked", x.routine(0, 0, 6), 6 - j);
        }
        sheet.due("a second mark", x.mark(0, 0, 0, 100), 6);
        sheet.says("RANGE: no such GYMNAST, APPARATUS, judge, mark;");
        x = Desks.routine("panel 3 span 0;");
        x.enter(0);
        for (int none : new int[] {-1, 2, LEAST, MOST}) {
            sheet.due("gymnast " + none, x.mark(none, 0, 0, 0), -2);
        }
        for (int none : new int[] {-1, 4, LEAST, MOST}) {
            sheet.due("apparatus " + none, x.mark(0, none, 0, 0), -2);
        }
        for (int none : new int[] {-1, 3, 5, 6, LEAST, MOST}) {
            sheet.due("judge " + none, x.mark(0, 0, none, 0), -2);
        }
        for (int none : new int[] {-1, 101, LEAST, MOST}) {
            sheet.due("mark " + none, x.mark(0, 0, 0, none), -2);
        }
        sheet.due("nobody has marked", x.routine(0, 0, 6), 0);
        sheet.says("NONE: no ROUTINE, it is posted, or the judge has marked and isn't ASKED.");
        sheet.due("no routine", x.mark(1, 0, 0, 0), -1);
        sheet.due("no routine at 3", x.mark(0, 3, 0, 0), -1);
        sheet.due("the first", x.mark(0, 0, 1, 100), 1);
        sheet.due("has marked", x.mark(0, 0, 1, 100), -1);
        sheet.due("the next", x.mark(0, 0, 0, 0), 2);
        sheet.due("has marked too", x.mark(0, 0, 0, 0), -1);
        sheet.due("the last", x.mark(0, 0, 2, 0), 3);
        sheet.due("has marked, isn't asked", x.mark(0, 0, 2, 1), -1);
        sheet.due("is asked", x.mark(0, 0, 1, 99), 3);
        sheet.due("isn't any more", x.mark(0, 0, 1, 0), -1);
        sheet.due("the second mark stands", x.post(0, 0, 0), 10000 - 3300);
        sheet.due("posted", x.mark(0, 0, 1, 0), -1);
    }

    private void promise11() {
        sheet.section("Promise 11: asked");
        sheet.says("Which judges are ASKED, as bits;");
        asked(0, 0b11011, 0, 1, 2, 3, 4);
        GymDesk x = Desks.routine("panel 6 span 0;");
        x.enter(1);
        for (int j = 0; j < 6; j++) {
            sheet.due("ahead of mark " + j, x.asked(0, 0), 0);
            x.mark(0, 0, j, j == 3 ? 50 : 49 + 2 * (j % 2) + (j == 0 ? 1 : 0));
        }
        sheet.due("all but two", x.asked(0, 0), 0b110110);
        int left = 0b110110;
        for (int j : new int[] {5, 1, 2, 4}) {
            x.mark(0, 0, j, 7);
            left &= ~(1 << j);
            sheet.due("without " + j, x.asked(0, 0), left);
        }
        sheet.due("posted", x.post(0, 0, 0), 10000 - (50 + 7 + 7 + 7) * 100 / 4);
        sheet.due("of a posted one", x.asked(0, 0), 0);
        sheet.says("NONE: no ROUTINE;");
        sheet.due("no routine", x.asked(1, 0), -1);
        sheet.due("no routine at 3", x.asked(0, 3), -1);
        sheet.says("RANGE.");
        for (int none : new int[] {-1, 2, LEAST, MOST}) {
            sheet.due("gymnast " + none, x.asked(none, 0), -2);
        }
        for (int none : new int[] {-1, 4, LEAST, MOST}) {
            sheet.due("apparatus " + none, x.asked(0, none), -2);
        }
    }

    private void promise12() {
        sheet.section("Promise 12: see");
        sheet.says("A judge saw a fault f at entry i: how much faults take off then;");
        GymDesk x = Desks.routine(Desks.parts(1, 1, 0) + Desks.faults(9, 1) + "fault e 2 each; panel 2 span 0;", 0, -1, 0);
        x.enter(0);
        sheet.due("fault 0", x.see(0, 0, 0, 0, 0), 1);
        sheet.due("seen by another", x.see(0, 0, 1, 0, 0), 1);
        sheet.due("fault 9 at 0", x.see(0, 0, 1, 9, 0), 3);
        sheet.due("seen by another", x.see(0, 0, 0, 9, 0), 3);
        sheet.due("at the torn one", x.see(0, 0, 0, 9, 1), 5);
        sheet.due("at the last", x.see(0, 0, 0, 9, 2), 7);
        sheet.due("told", x.routine(0, 0, 3), 7);
        sheet.says("RANGE: no such GYMNAST, APPARATUS, judge, fault;");
        for (int none : new int[] {-1, 2, LEAST, MOST}) {
            sheet.due("gymnast " + none, x.see(none, 0, 0, 0, 0), -2);
            sheet.due("judge " + none, x.see(0, 0, none, 0, 0), -2);
        }
        for (int none : new int[] {-1, 4, LEAST, MOST}) {
            sheet.due("apparatus " + none, x.see(0, none, 0, 0, 0), -2);
        }
        for (int none : new int[] {-1, 10, LEAST, MOST}) {
            sheet.due("fault " + none, x.see(0, 0, 0, none, 0), -2);
        }
        sheet.due("no fault at all", Desks.routine("part a 1 in 0;", 0).see(0, 0, 0, 0, 0), -2);
        sheet.says("NONE: no ROUTINE, no such entry, or it is posted.");
        sheet.due("no routine", x.see(1, 0, 0, 0, 0), -1);
        for (int none : new int[] {-1, 3, 16, 32, LEAST, MOST}) {
            sheet.due("entry " + none, x.see(0, 0, 0, 5, none), -1);
        }
        sheet.due("nothing more", x.routine(0, 0, 3), 7);
        Desks.markBy(x, 0, 0, 0);
        sheet.due("not posted yet", x.see(0, 0, 0, 1, 2), 8);
        sheet.due("posted less that", x.post(0, 0, 0), 10000 + 100 - 800);
        sheet.due("posted", x.see(0, 0, 0, 2, 2), -1);
        sheet.due("nothing more then", x.routine(0, 0, 3), 8);
        GymDesk y = Desks.routine("part a 1 in 0; fault f 1;");
        sheet.due("without entries", y.see(0, 0, 0, 0, 0), -1);
    }

    private void promise13() {
        sheet.section("Promise 13: post");
        sheet.says("The SCORE is posted at a time: it;");
        GymDesk x = performed(6);
        sheet.due("at 0", x.post(0, 0, 0), 10300);
        sheet.due("at 4", x.post(1, 0, 4), 10300);
        sheet.due("when 0", x.routine(0, 0, 10), 0);
        sheet.due("when 4", x.routine(1, 0, 10), 4);
        sheet.says("RANGE: no such, or a time below the latest;");
        for (int none : new int[] {-1, 6, LEAST, MOST}) {
            sheet.due("gymnast " + none, x.post(none, 0, 9), -2);
        }
        for (int none : new int[] {-1, 4, LEAST, MOST}) {
            sheet.due("apparatus " + none, x.post(2, none, 9), -2);
        }
        for (int time : new int[] {3, 0, -1, LEAST}) {
            sheet.due("at " + time, x.post(2, 0, time), -2);
            sheet.due("no routine, at " + time, x.post(2, 1, time), -2);
        }
        sheet.due("the latest", x.post(2, 0, 4), 10300);
        sheet.says("NONE: no ROUTINE, it is posted, or a mark is wanting or ASKED.");
        sheet.due("no routine", x.post(3, 1, 4), -1);
        sheet.due("posted", x.post(2, 0, 4), -1);
        sheet.due("posted, later", x.post(2, 0, 9), -1);
        sheet.due("when it was", x.routine(2, 0, 10), 4);
        sheet.due("the latest time", x.count(14), 4);
        GymDesk y = Desks.routine("panel 3 span 0;");
        int[] marks = {8, 5, 2};
        for (int j = 0; j < 3; j++) {
            sheet.due(j + " of 3 marks", y.post(0, 0, 0), -1);
            y.mark(0, 0, j, marks[j]);
        }
        sheet.due("two asked", y.post(0, 0, 0), -1);
        y.mark(0, 0, 0, 8);
        sheet.due("one asked", y.post(0, 0, 0), -1);
        y.mark(0, 0, 2, 2);
        sheet.due("none asked", y.post(0, 0, 0), 9500);
    }

    private void promise14() {
        sheet.section("Promise 14: routine");
        sheet.says("Of a ROUTINE, what 0: entries, 1: D, 2: its CHOICE, 3: what faults take off, 4: 1 if it is posted,"
            + " 5: 1 if it was inquired after, 2 if that was granted, 3 if not, else 0, 6: judges that marked, 7: entries"
            + " that are REPEATS;");
        GymDesk x = Desks.routine("part a 3 in 0; part b 4 in 1; fault f 7; panel 2 span 50;");
        x.enter(1);
        told(x, 0, 0, 0, 0, 0, 0, 0, 0);
        x.entry(0, 0, 0);
        told(x, 1, 3, 1, 0, 0, 0, 0, 0);
        x.entry(0, 0, 0);
        told(x, 2, 3, 1, 0, 0, 0, 0, 1);
        x.entry(0, 0, 1);
        told(x, 3, 7, 5, 0, 0, 0, 0, 1);
        x.entry(0, 0, -1);
        x.entry(0, 0, 1);
        x.mark(0, 0, 1, 9);
        x.see(0, 0, 1, 0, 4);
        told(x, 5, 7, 5, 7, 0, 0, 1, 1);
        sheet.says("of a posted one 8: SCORE, 9: E, 10: when it was posted;");
        for (int what = 8; what <= 10; what++) {
            sheet.due("not posted, what " + what, x.routine(0, 0, what), -9);
        }
        x.mark(0, 0, 0, 8);
        x.post(0, 0, 6);
        sheet.due("SCORE", x.routine(0, 0, 8), 10700 - 850 - 700);
        sheet.due("E", x.routine(0, 0, 9), 850);
        sheet.due("when", x.routine(0, 0, 10), 6);
        told(x, 5, 7, 5, 7, 1, 0, 2, 1);
        x.inquire(0, 0, 11);
        told(x, 5, 7, 5, 7, 1, 1, 2, 1);
        sheet.due("when it was posted", x.routine(0, 0, 10), 6);
        statesOfInquiries();
        sheet.says("20 + i: entry i (NONE: TORN).");
        int[] entries = {0, 0, 1, -1, 1};
        for (int i = 0; i < entries.length; i++) {
            sheet.due("entry " + i, x.routine(0, 0, 20 + i), entries[i]);
        }
        GymDesk y = Desks.routine(Desks.parts(16, 1, 0), Desks.run(16));
        for (int i = 0; i < 16; i++) {
            sheet.due("entry " + i + " of 16", y.routine(0, 0, 20 + i), i);
        }
        sheet.says("-9 when there is none such.");
        for (int what : new int[] {-1, 11, 12, 18, 19, 25, 35, 36, 40, 120, LEAST, MOST}) {
            sheet.due("what " + what, x.routine(0, 0, what), -9);
        }
        sheet.due("entry 16 of 16", y.routine(0, 0, 36), -9);
        for (int what = -1; what <= 21; what++) {
            sheet.due("no routine's " + what, x.routine(1, 0, what), -9);
            sheet.due("gymnast 2's " + what, x.routine(2, 0, what), -9);
            sheet.due("gymnast -1's " + what, x.routine(-1, 0, what), -9);
            sheet.due("apparatus 4's " + what, x.routine(0, 4, what), -9);
            sheet.due("apparatus -1's " + what, x.routine(0, -1, what), -9);
        }
        sheet.due("the most gymnast's", x.routine(MOST, 0, 0), -9);
        sheet.due("the least gymnast's", x.routine(LEAST, LEAST, 0), -9);
    }

    /** What 0 to 7 of gymnast 0's routine at 0. */
    private void told(GymDesk x, int... due) {
        for (int what = 0; what < due.length; what++) {
            sheet.due("what " + what, x.routine(0, 0, what), due[what]);
        }
    }

    private void statesOfInquiries() {
        sheet.says("5: 1 if it was inquired after, 2 if that was granted, 3 if not, else 0,");
        GymDesk x = performed(3);
        for (int g = 0; g < 3; g++) {
            x.post(g, 0, 0);
            sheet.due("posted", x.routine(g, 0, 5), 0);
        }
        x.inquire(1, 0, 0);
        x.inquire(2, 0, 0);
        x.answer(1, 0, 0, 1);
        x.answer(2, 0, 0, 2);
        sheet.due("not inquired after", x.routine(0, 0, 5), 0);
        sheet.due("granted", x.routine(1, 0, 5), 2);
        sheet.due("not granted", x.routine(2, 0, 5), 3);
    }

    private void promise15() {
        sheet.section("Promise 15: inquire");
        sheet.says("A LAND inquires after a posted SCORE at a time; it pays a fee: how many fees it has paid that did"
            + " not come back;");
        GymDesk x = performed(6);
        for (int g = 0; g < 6; g++) {
            x.post(g, 0, g);
        }
        sheet.due("the first fee", x.inquire(1, 0, 6), 1);
        sheet.due("the second fee", x.inquire(2, 0, 6), 2);
        x.answer(1, 0, 0, 1);
        sheet.due("a fee behind one that came back", x.inquire(3, 0, 6), 2);
        x.answer(2, 0, 0, 0);
        sheet.due("a fee behind one that didn't", x.inquire(4, 0, 6), 3);
        sheet.due("the latest time", x.count(14), 6);
        sheet.says("RANGE: no such, or a time below the latest;");
        for (int none : new int[] {-1, 6, LEAST, MOST}) {
            sheet.due("gymnast " + none, x.inquire(none, 0, 9), -2);
        }
        for (int none : new int[] {-1, 4, LEAST, MOST}) {
            sheet.due("apparatus " + none, x.inquire(5, none, 9), -2);
        }
        for (int time : new int[] {5, 0, -1, LEAST}) {
            sheet.due("at " + time, x.inquire(5, 0, time), -2);
            sheet.due("not posted, at " + time, x.inquire(5, 1, time), -2);
        }
        sheet.due("three fees still", x.fees(0), 3);
        sheet.says("NONE: not posted, too late, or it was inquired after.");
        sheet.due("no routine", x.inquire(5, 1, 6), -1);
        x.begin(5, 1);
        sheet.due("not posted", x.inquire(5, 1, 6), -1);
        sheet.due("6 behind", x.inquire(0, 0, 6), -1);
        sheet.due("was granted", x.inquire(1, 0, 6), -1);
        sheet.due("was not granted", x.inquire(2, 0, 6), -1);
        sheet.due("waits", x.inquire(3, 0, 6), -1);
        sheet.due("6 behind the last", x.inquire(5, 0, 11), -1);
        sheet.due("three fees", x.fees(0), 3);
        sheet.due("the latest time still", x.count(14), 6);
        sheet.due("5 behind the last", x.inquire(5, 0, 10), 4);
        sheet.due("the latest time then", x.count(14), 10);
    }

    private void promise16() {
        sheet.section("Promise 16: answer");
        sheet.says("An inquiry that waits is answered: entry i is held for part p.");
        GymDesk x = inquired("part a 3 in 0; part b 4 in 1; part c 2 in 2; panel 1 span 0; fault f 2;", 0, 2, -1, 0, 2);
        sheet.due("the last entry ahead of the torn one", x.answer(0, 0, 1, 1), 10000 + 700 - 500);
        sheet.due("the answered one's state", x.routine(0, 0, 5), 2);
        sheet.says("If D is greater so, it is granted: the entry, D, SCORE are so, the fee comes back: the SCORE then;");
        int[] due = {5, 7, 3, 0, 1, 2, 1, 0, 10200, 500, 3, -9};
        for (int what = 0; what < due.length; what++) {
            sheet.due("granted, what " + what, x.routine(0, 0, what), due[what]);
        }
        int[] entries = {0, 1, -1, 0, 2, -9};
        for (int i = 0; i < entries.length; i++) {
            sheet.due("entry " + i, x.routine(0, 0, 20 + i), entries[i]);
        }
        sheet.due("the fee came back", x.fees(0), 0);
        sheet.due("the place", x.place(0, 0, 1), 10200);
        sheet.due("the land's score", x.land(0, 0), 10200);
        sheet.due("the latest time", x.count(14), 3);
        x = inquired("part a 3 in 0; part b 4 in 0; panel 1 span 0;", 0);
        sheet.due("D one more", x.answer(0, 0, 0, 1), 9900);
        sheet.says("else all stays, 0.");
        notGranted();
        sheet.says("RANGE: no such GYMNAST, APPARATUS, part;");
        x = inquired("part a 3 in 0; part b 4 in 0; panel 1 span 0;", 0, -1);
        for (int none : new int[] {-1, 1, LEAST, MOST}) {
            sheet.due("gymnast " + none, x.answer(none, 0, 0, 1), -2);
        }
        for (int none : new int[] {-1, 4, LEAST, MOST}) {
            sheet.due("apparatus " + none, x.answer(0, none, 0, 1), -2);
        }
        for (int none : new int[] {-1, 2, LEAST, MOST}) {
            sheet.due("part " + none, x.answer(0, 0, 0, none), -2);
        }
        sheet.says("NONE: no inquiry waits, no such entry, or it is TORN.");
        for (int none : new int[] {-1, 2, 16, 32, LEAST, MOST}) {
            sheet.due("entry " + none, x.answer(0, 0, none, 1), -1);
        }
        sheet.due("torn", x.answer(0, 0, 1, 1), -1);
        sheet.due("no routine", x.answer(0, 1, 0, 1), -1);
        sheet.due("it waits still", x.routine(0, 0, 5), 1);
        sheet.due("granted", x.answer(0, 0, 0, 1), 9900);
        sheet.due("none waits behind that", x.answer(0, 0, 0, 1), -1);
        x = Desks.routine("part a 3 in 0; part b 4 in 0; panel 1 span 0;", 0);
        sheet.due("not posted", x.answer(0, 0, 0, 1), -1);
        x.mark(0, 0, 0, 0);
        x.post(0, 0, 0);
        sheet.due("not inquired after", x.answer(0, 0, 0, 1), -1);
        x.inquire(0, 0, 6);
        sheet.due("inquired after too late", x.answer(0, 0, 0, 1), -1);
        sheet.due("D still", x.routine(0, 0, 1), 3);
    }

    /** A routine of these entries with a mark of 5 of its one judge, posted and inquired after at 3. */
    private static GymDesk inquired(String text, int... entries) {
        GymDesk x = Desks.routine(text, entries);
        x.mark(0, 0, 0, 5);
        x.post(0, 0, 3);
        x.inquire(0, 0, 3);
        if (x.fees(0) != 1) {
            throw new IllegalStateException("no inquiry under " + text);
        }
        return x;
    }

    private void notGranted() {
        String text = "part a 3 in 0; part b 3 in 1; part c 2 in 2; part d 3 in 3 as a; panel 1 span 0;";
        int[][] answers = {{0, 0}, {0, 2}, {0, 3}, {1, 0}, {1, 2}, {1, 3}, {2, 0}, {2, 2}, {2, 3}, {4, 1}, {4, 2}};
        for (int[] answer : answers) {
            GymDesk x = inquired(text, 0, 2, 0, -1, 0);
            sheet.due("entry " + answer[0] + " for part " + answer[1], x.answer(0, 0, answer[0], answer[1]), 0);
            int[] due = {5, 5, 3, 0, 1, 3, 1, 1, 10000, 500, 3, -9};
            for (int what = 0; what < due.length; what++) {
                sheet.due("not granted, what " + what, x.routine(0, 0, what), due[what]);
            }
            int[] entries = {0, 2, 0, -1, 0, -9};
            for (int i = 0; i < entries.length; i++) {
                sheet.due("entry " + i, x.routine(0, 0, 20 + i), entries[i]);
            }
            sheet.due("the fee didn't come back", x.fees(0), 1);
            sheet.due("answered once", x.answer(0, 0, 2, 1), -1);
        }
        GymDesk x = inquired("part a 3 in 0; part b 9 in 0; short 3 less 20; panel 1 span 0;", 0);
        sheet.due("D 0 still, though its worth is greater", x.answer(0, 0, 0, 1), 0);
        sheet.due("the entry stays", x.routine(0, 0, 20), 0);
    }
}
