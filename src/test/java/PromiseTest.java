/** Each promise of the document by hand: ordinary calls, the edges it names, and wrong arguments. */
public final class PromiseTest {
    private static int checks = 0;
    private static int wrong = 0;
    private static int promise = 0;

    private static void due(String what, long got, long want) {
        checks++;
        if (got != want) {
            wrong++;
            System.out.println("promise " + promise + ": " + what + " answered " + got + ", due is " + want);
        }
    }

    private static void good(String text, int parts) {
        GymDesk x = new GymDesk();
        due("code of «" + text + "»", Desks.code(x, text), parts);
        due("fault kind of «" + text + "»", x.fault(0), 0);
        due("fault place of «" + text + "»", x.fault(1), -1);
    }

    private static void bad(String text, int kind, int place) {
        GymDesk x = new GymDesk();
        due("code of «" + text + "»", Desks.code(x, text), -1);
        due("fault kind of «" + text + "»", x.fault(0), kind);
        due("fault place of «" + text + "»", x.fault(1), place);
    }

    private static void aNewObject() {
        promise = 1;
        GymDesk x = new GymDesk();
        int[] first = {0, 0, 0, 4, 3, 8, 0, 0, 4, 3, 8, 2, 0, 0, 0, 0};
        for (int what = 0; what < first.length; what++) {
            due("count(" + what + ")", x.count(what), first[what]);
        }
        for (int g = 0; g < 5; g++) {
            due("needs", x.count(20 + g), 0);
            due("worth", x.count(30 + g), 0);
            due("limit", x.count(40 + g), -1);
        }
        due("fault(0)", x.fault(0), 0);
        due("fault(1)", x.fault(1), -1);
        due("part(0, 0)", x.part(0, 0), -1);
        due("begin of nobody", x.begin(0, 0), -2);
        due("list(0)", x.list(0), 0);
        due("standing(3)", x.standing(3), 1);
        due("fees(3)", x.fees(3), 0);
        due("enter without a code", x.enter(3), 0);
        due("begin without a code", x.begin(0, 3), 1);
        due("a part of no code", x.entry(0, 3, 0), -2);
        due("torn without a code", x.entry(0, 3, -1), 1);
        due("four judges", x.mark(0, 3, 3, 0), 1);
        due("no fifth judge", x.mark(0, 3, 4, 0), -2);
    }

    private static void feed() {
        promise = 2;
        GymDesk x = new GymDesk();
        for (int n = 1; n <= 150; n++) {
            due("feed " + n, x.feed(0x20202020, 0x20202020, 0x20202020, 0x20202020, 0x20202020), 20 * n);
        }
        due("feed of a full tape", x.feed(0, 0, 0, 0, 0), -3);
        due("bytes of a full tape", x.count(13), 3000);
        due("end(2981)", x.end(2981), 2981);
        due("feed without room for all", x.feed(0, 0, 0, 0, 0), -3);
        due("nothing came of it", x.count(13), 2981);
        due("code of blanks", x.code(), 0);
        x = new GymDesk();
        due("feed of bytes in order", x.feed(0x7061727A, 0x20786962, 0x20202020, 0x20202020, 0x20202020), 20);
        due("a word of them", x.code(), -1);
        due("its place", x.fault(1), 0);
        x.feed(0x20202070, 0x61727420, 0x61203320, 0x696E2031, 0x3B202020);
        due("the highest byte first", x.code(), 1);
        due("worth of its part", x.part(0, 0), 3);
        due("group of its part", x.part(0, 1), 1);
        x.feed(0x200A0AFF, -1, -1, -1, -1);
        due("code of high bytes", x.code(), -1);
        due("place of the first high byte", x.fault(1), 3);
    }

    private static void end() {
        promise = 3;
        GymDesk x = new GymDesk();
        due("end(0) of an empty tape", x.end(0), 0);
        due("end(1) of an empty tape", x.end(1), -1);
        x.feed(0, 0, 0, 0, 0);
        due("end(-1)", x.end(-1), -1);
        due("end(least)", x.end(Integer.MIN_VALUE), -1);
        due("end(21)", x.end(21), -1);
        due("end(most)", x.end(Integer.MAX_VALUE), -1);
        due("the tape stays", x.count(13), 20);
        due("end(20)", x.end(20), 20);
        due("end(7)", x.end(7), 7);
        due("end(8) is gone", x.end(8), -1);
        due("seven are left", x.count(13), 7);
        due("the next comes behind them", x.feed(0, 0, 0, 0, 0), 27);
    }

    private static void codeTakesAText() {
        promise = 4;
        GymDesk x = Desks.under("part a 3 in 0; panel 2 span 7; fault f 2; link a a 1; group 1 needs 2 worth 3; limit 4 of 2;"
            + "counts 5; short 6 less 7; team 2 of 1; final 3 land 4;");
        due("the tape is empty then", x.count(13), 0);
        Desks.perform(x, 1, 0, 3, 0);
        x.post(0, 0, 9);
        x.inquire(0, 0, 10);
        due("a code with a fault", Desks.code(x, "part b 1 in 1; part"), -1);
        due("the tape is empty then too", x.count(13), 0);
        due("the code stays", x.part(0, 0), 3);
        due("the panel stays", x.count(3), 2);
        due("the meeting stays", x.count(12), 1);
        due("the clock stays", x.count(14), 10);
        due("the score stays", x.routine(0, 0, 4), 1);
        due("a second code", Desks.code(x, "part b 5 in 4; part c 6 in 4 as b;"), 2);
        due("nobody", x.count(12), 0);
        due("the clock is at first", x.count(14), 0);
        due("no postings", x.count(15), 0);
        due("no fees", x.fees(1), 0);
        int[] first = {2, 0, 0, 4, 3, 8, 0, 0, 4, 3, 8, 2, 0, 0, 0, 0};
        for (int what = 0; what < first.length; what++) {
            due("count(" + what + ") as at first", x.count(what), first[what]);
        }
        due("no needs", x.count(21), 0);
        due("nor their worth", x.count(31), 0);
        due("no limit", x.count(42), -1);
        x.enter(1);
        due("no routine of the last meeting", x.routine(0, 0, 0), -9);
        due("none is withdrawn", x.withdraw(0, 0), 1);
        due("an empty text", Desks.code(x, ""), 0);
        due("no parts then", x.part(0, 0), -1);
    }

    private static void aSecondMeeting() {
        promise = 4;
        String text = "part a 3 in 0; part b 4 in 1; fault f 2; fault h 3 each; link a b 1; short 2 less 3;"
            + "group 2 needs 1 worth 1; limit 1 of 3;";
        GymDesk x = Desks.under(text);
        for (int g = 0; g < 3; g++) {
            x.enter(0);
            x.withdraw(g, 4);
            Desks.performBy(x, g, 0, 9, 0, 1, 0);
            x.see(g, 0, 0, 0, 0);
            x.see(g, 0, 0, 1, 1);
        }
        x.post(0, 0, 50);
        x.inquire(0, 0, 51);
        x.routine(1, 0, 1);
        x.begin(1, 1);
        for (int j = 0; j < 4; j++) {
            x.mark(1, 1, j, 30 * j);
        }
        due("some are asked", x.asked(1, 1), 13);
        due("a code of less", Desks.code(x, "part a 3 in 0;"), 1);
        due("the code of before once more", Desks.code(x, text), 2);
        due("its links alone", x.count(1), 1);
        due("its faults alone", x.count(2), 2);
        due("links from a", x.part(0, 3), 1);
        due("a code of less once more", Desks.code(x, "part c 5 in 0;"), 1);
        int[] first = {1, 0, 0, 4, 3, 8, 0, 0, 4, 3, 8, 2};
        for (int what = 0; what < first.length; what++) {
            due("count(" + what + ") of it", x.count(what), first[what]);
        }
        due("no needs", x.count(22), 0);
        due("nor their worth", x.count(32), 0);
        due("no limit", x.count(43), -1);
        Desks.code(x, text);
        for (int g = 0; g < 3; g++) {
            x.enter(7);
            due("none has withdrawn", x.withdraw(g, 4), 1);
            x.begin(g, 0);
            int[] fresh = {0, 0, 0, 0, 0, 0, 0, 0, -9, -9, -9};
            for (int what = 0; what < fresh.length; what++) {
                due("a fresh routine's " + what, x.routine(g, 0, what), fresh[what]);
            }
        }
        x.begin(1, 1);
        due("none asked", x.asked(1, 1), 0);
        x.mark(1, 1, 0, 5);
        due("nor behind a mark", x.asked(1, 1), 0);
        due("judge 1 hasn't marked", x.mark(1, 1, 1, 5), 2);
        due("fees", x.fees(0), 0);
    }

    private static void syntaxAndNames() {
        promise = 5;
        String[] quoted = ("part in as link group needs worth limit of counts short less fault each panel span team"
            + " final land").split(" ");
        for (String q : quoted) {
            bad("part " + q + " 3 in 0;", 1, 5);
            bad("fault " + q + " 3;", 1, 6);
            bad("part a 3 in 0; link a " + q + " 1;", 1, 22);
        }
        bad("in", 1, 0);
        bad(";", 1, 0);
        bad("3", 1, 0);
        bad("a", 1, 0);
        bad("part a 3 in 0;;", 1, 14);
        bad("part a 3 in 0; link", 1, 19);
        bad("part a 3 in 0 link", 1, 14);
        bad("part a x in 0;", 1, 7);
        bad("part a 3 of 0;", 1, 9);
        bad("part a 3 in x;", 1, 12);
        bad("part 3 3 in 0;", 1, 5);
        bad("part a 3 in 0 as;", 1, 16);
        bad("part a 3 in 0 as 3;", 1, 17);
        bad("part a 3 in 0; part b 3 in 0 as a as", 1, 34);
        bad("part a 3 in 0; link b", 2, 20);
        bad("part a 3 in 0; link a b", 2, 22);
        bad("fault a 3; link a", 2, 16);
        bad("part a 3 in 0; link a 3", 1, 22);
        bad("fault a 3 each each", 1, 15);
        bad("fault a 3 as", 1, 10);
        bad("fault a 3; fault b 3; fault a", 2, 28);
        bad("group 0 worth", 1, 8);
        bad("group 0 needs 1 of", 1, 16);
        bad("limit 1 in", 1, 8);
        bad("short 1 of", 1, 8);
        bad("panel 1 land", 1, 8);
        bad("team 1 land", 1, 7);
        bad("final 1 of", 1, 8);
        bad("counts 1 2", 1, 9);
        bad("counts", 1, 6);
        bad("counts \n ", 1, 9);
        bad("counts\t1;", 1, 6);
        bad("counts 1;\r", 1, 9);
        bad("counts 0001;", 1, 7);
        bad("Counts 1;", 1, 0);
        bad("counts 1.", 1, 8);
        bad("counts -1;", 1, 7);
        bad("part a\u00e9 1 in 0;", 1, 6);
        bad("part abcdefghijk", 1, 5);
        bad("partpartpartpart a", 1, 0);
        bad("part a 3 in 0; part a", 2, 20);
        bad("part a 1 in 0; link a a 1 1", 1, 26);
        bad("part a 1 in 0; link a a 1", 1, 25);
        bad("fault a 1", 1, 9);
        bad("fault z 1; fault z", 2, 17);
        bad("part azb 1 in 0; part azb", 2, 22);
        good("fault a 3; part a 3 in 0; link a a 1;", 1);
        good("part z 1 in 0; part zz 1 in 0; part az 1 in 0;", 3);
        good("part a 3 in 0;part b 3in 0as a;", 2);
        good("counts\n001 ;", 0);
        good("part partx 1 in 0; part xpart 1 in 0; part lan 1 in 0; part landd 1 in 0;", 4);
        good("part abcdefghij 1 in 0; part abcdefghii 1 in 0;", 2);
        good("part a 1 in 0; part aa 1 in 0; part aaa 1 in 0; part b 1 in 0; part ba 1 in 0;", 5);
    }

    private static void numbersAndTwice() {
        promise = 5;
        good("part a 1 in 0; part b 30 in 4;", 2);
        bad("part a 0 in", 3, 7);
        bad("part a 31 in", 3, 7);
        bad("part a 1 in 5", 3, 12);
        good("part a 1 in 0; part b 1 in 0; link a b 1; link b a 9; link a a 1; link b b 2;", 2);
        bad("part a 1 in 0; link a a 0", 3, 24);
        bad("part a 1 in 0; link a a 10", 3, 24);
        good("group 0 needs 1 worth 1; group 4 needs 10 worth 20;", 0);
        bad("group 5", 3, 6);
        bad("group 0 needs 0", 3, 14);
        bad("group 0 needs 11", 3, 14);
        bad("group 0 needs 1 worth 0", 3, 22);
        bad("group 0 needs 1 worth 21", 3, 22);
        good("limit 0 of 0; limit 10 of 4;", 0);
        bad("limit 11", 3, 6);
        bad("limit 1 of 5", 3, 11);
        good("counts 1;", 0);
        good("counts 10;", 0);
        bad("counts 0", 3, 7);
        bad("counts 11", 3, 7);
        good("short 1 less 1;", 0);
        good("short 10 less 99;", 0);
        bad("short 0", 3, 6);
        bad("short 11", 3, 6);
        bad("short 1 less 0", 3, 13);
        bad("short 1 less 100", 3, 13);
        good("fault a 1; fault b 50 each;", 0);
        bad("fault a 0", 3, 8);
        bad("fault a 51", 3, 8);
        good("panel 1 span 0;", 0);
        good("panel 6 span 50;", 0);
        bad("panel 0", 3, 6);
        bad("panel 7", 3, 6);
        bad("panel 1 span 51", 3, 13);
        good("team 1 of 1;", 0);
        good("team 6 of 6;", 0);
        bad("team 0", 3, 5);
        bad("team 7", 3, 5);
        bad("team 2 of 0", 3, 10);
        bad("team 2 of 3", 3, 10);
        good("final 1 land 1;", 0);
        good("final 10 land 10;", 0);
        bad("final 0", 3, 6);
        bad("final 11", 3, 6);
        bad("final 1 land 0", 3, 13);
        bad("final 1 land 11", 3, 13);
        bad("part a 1 in 0; part b 1 in 0; link a b 1; link a b", 5, 49);
        bad("group 3 needs 1 worth 1; group 3", 5, 31);
        bad("group 3 needs 1 worth 1; limit 0 of 3; limit 1 of 3", 5, 50);
        bad("limit 0 of 3; limit 1 of 3", 5, 25);
        bad("counts 3; counts", 5, 10);
        bad("short 3 less 3; short", 5, 16);
        bad("panel 3 span 3; panel", 5, 16);
        bad("team 3 of 3; team", 5, 13);
        bad("final 3 land 3; final", 5, 16);
        bad("counts 3; team 3 of 3; final 3 land 3; counts", 5, 39);
        bad("group 0 needs 1 worth 1; group 1 needs 1 worth 1; group 0", 5, 56);
        bad("limit 1 of 0; limit 1 of 1; limit 1 of 0", 5, 39);
    }

    private static String many(String line, int times) {
        StringBuilder text = new StringBuilder();
        for (int n = 0; n < times; n++) {
            text.append(line.replace('?', (char) ('a' + n % 26)).replace('!', (char) ('a' + n / 26)));
        }
        return text.toString();
    }

    private static void roomAndTheLatestFault() {
        promise = 5;
        String parts = many("part x?! 1 in 0;", 30);
        good(parts, 30);
        bad(parts + " part x", 4, parts.length() + 1);
        bad(parts + " 3", 1, parts.length() + 1);
        String faults = many("fault x?! 1;", 10);
        good(faults, 0);
        bad(faults + "fault xaa", 4, faults.length());
        String links = many("part x?! 1 in 0;", 5);
        for (int n = 0; n < 20; n++) {
            links += "link x" + (char) ('a' + n / 5) + "a x" + (char) ('a' + n % 5) + "a 1;";
        }
        good(links, 5);
        bad(links + "link xaa xaa", 4, links.length());
        GymDesk x = new GymDesk();
        Desks.code(x, "x");
        due("fault(2)", x.fault(2), -1);
        due("fault(-1)", x.fault(-1), -1);
        due("a fault's kind", x.fault(0), 1);
        Desks.code(x, "  counts 1; counts");
        due("the latest fault's kind", x.fault(0), 5);
        due("the latest fault's place", x.fault(1), 12);
        Desks.code(x, "counts 1;");
        due("none of the latest code", x.fault(0), 0);
        due("no place", x.fault(1), -1);
    }

    private static void part() {
        promise = 6;
        GymDesk x = Desks.under("part a 3 in 0; part b 4 in 1 as a; part c 5 in 4 as b; part d 30 in 2; link b a 1;"
            + "link b b 2; link d a 3;");
        int[][] parts = {{3, 0, 0, 0}, {4, 1, 0, 2}, {5, 4, 0, 0}, {30, 2, 3, 1}};
        for (int p = 0; p < 4; p++) {
            for (int what = 0; what < 4; what++) {
                due("part(" + p + ", " + what + ")", x.part(p, what), parts[p][what]);
            }
        }
        due("part(4, 0)", x.part(4, 0), -1);
        due("part(-1, 0)", x.part(-1, 0), -1);
        due("part(29, 2)", x.part(29, 2), -1);
        due("part(30, 2)", x.part(30, 2), -1);
        due("part(0, 4)", x.part(0, 4), -1);
        due("part(0, -1)", x.part(0, -1), -1);
    }

    private static void enter() {
        promise = 7;
        GymDesk x = new GymDesk();
        due("enter(-1)", x.enter(-1), -2);
        due("enter(10)", x.enter(10), -2);
        for (int g = 0; g < 40; g++) {
            due("enter " + g, x.enter(g % 10), g);
        }
        due("the 41st", x.enter(0), -3);
        due("the 41st of no land", x.enter(10), -2);
        due("forty", x.count(12), 40);
    }

    private static void begin() {
        promise = 8;
        GymDesk x = Desks.under("team 2 of 2;");
        for (int land : new int[] {3, 3, 4, 3}) {
            x.enter(land);
        }
        due("no gymnast", x.begin(4, 0), -2);
        due("gymnast -1", x.begin(-1, 0), -2);
        due("no apparatus", x.begin(0, 4), -2);
        due("apparatus -1", x.begin(0, -1), -2);
        due("the land's first", x.begin(0, 0), 1);
        due("it is there", x.begin(0, 0), -1);
        due("another land's first", x.begin(2, 0), 1);
        due("the land's second", x.begin(3, 0), 2);
        due("it is there, full or not", x.begin(3, 0), -1);
        due("the land is full", x.begin(1, 0), -3);
        due("full is not there", x.asked(1, 0), -1);
        due("another apparatus", x.begin(1, 3), 1);
        due("without entries", x.routine(1, 3, 0), 0);
        due("a routine of entries 0", x.routine(1, 3, 2), 0);
    }

    private static void entry() {
        promise = 9;
        GymDesk x = Desks.under("part a 1 in 0; part b 2 in 0;");
        x.enter(0);
        x.enter(0);
        x.begin(0, 0);
        due("no gymnast", x.entry(2, 0, 0), -2);
        due("no apparatus", x.entry(0, 4, 0), -2);
        due("no part", x.entry(0, 0, 2), -2);
        due("no part below", x.entry(0, 0, -2), -2);
        due("no part goes ahead of no routine", x.entry(1, 0, 2), -2);
        due("no routine", x.entry(1, 0, 0), -1);
        due("a part", x.entry(0, 0, 1), 1);
        due("torn", x.entry(0, 0, -1), 2);
        for (int n = 3; n <= 16; n++) {
            due("entry " + n, x.entry(0, 0, 0), n);
        }
        due("the 17th", x.entry(0, 0, 0), -3);
        due("the 17th, no part", x.entry(0, 0, 2), -2);
        due("sixteen", x.routine(0, 0, 0), 16);
        for (int j = 0; j < 4; j++) {
            x.mark(0, 0, j, 0);
        }
        x.post(0, 0, 0);
        due("posted goes ahead of full", x.entry(0, 0, 0), -1);
    }

    private static void mark() {
        promise = 10;
        GymDesk x = Desks.under("panel 3 span 2;");
        x.enter(0);
        x.enter(0);
        x.begin(0, 1);
        due("no gymnast", x.mark(2, 1, 0, 0), -2);
        due("no apparatus", x.mark(0, -1, 0, 0), -2);
        due("no judge", x.mark(0, 1, 3, 0), -2);
        due("judge -1", x.mark(0, 1, -1, 0), -2);
        due("mark -1", x.mark(0, 1, 0, -1), -2);
        due("mark 101", x.mark(0, 1, 0, 101), -2);
        due("no routine", x.mark(1, 1, 0, 0), -1);
        due("no routine, no mark", x.mark(1, 1, 0, 101), -2);
        due("mark 100", x.mark(0, 1, 2, 100), 1);
        due("again", x.mark(0, 1, 2, 99), -1);
        due("none asked yet", x.asked(0, 1), 0);
        due("mark 0", x.mark(0, 1, 0, 0), 2);
        due("the last", x.mark(0, 1, 1, 50), 3);
        due("strays asked", x.asked(0, 1), 5);
        due("not asked", x.mark(0, 1, 1, 50), -1);
        due("asked", x.mark(0, 1, 2, 100), 3);
        due("asked once", x.mark(0, 1, 2, 50), -1);
        due("asked, the other", x.mark(0, 1, 0, 53), 3);
        due("none asked", x.asked(0, 1), 0);
        due("posted", x.post(0, 1, 0), 10000 - 203 * 100 / 3);
        due("a mark then", x.mark(0, 1, 0, 50), -1);
    }

    private static void asked() {
        promise = 11;
        GymDesk x = Desks.under("panel 4 span 3;");
        x.enter(0);
        due("no gymnast", x.asked(1, 0), -2);
        due("no apparatus", x.asked(0, 4), -2);
        due("no routine", x.asked(0, 0), -1);
        x.begin(0, 0);
        int[] marks = {10, 13, 14, 6};
        for (int j = 0; j < 4; j++) {
            due("none asked", x.asked(0, 0), 0);
            x.mark(0, 0, j, marks[j]);
        }
        due("farther than the span from 10, the lower middle", x.asked(0, 0), 12);
        x.mark(0, 0, 2, 90);
        due("the second mark stands", x.asked(0, 0), 8);
        x.mark(0, 0, 3, 90);
        due("those who weren't asked aren't asked by a new middle", x.asked(0, 0), 0);
        due("posted so", x.post(0, 0, 0), 10000 - 5150);
        due("none asked of a posted one", x.asked(0, 0), 0);
        int[][] panels = {{5}, {9, 3}, {1, 5, 9}, {7, 0, 3, 4, 1}, {20, 4, 0, 9, 9, 12}};
        int[] due = {0, 1, 5, 1, 7};
        for (int n = 0; n < panels.length; n++) {
            x = Desks.under("panel " + panels[n].length + " span 3;");
            x.enter(0);
            x.begin(0, 0);
            for (int j = 0; j < panels[n].length; j++) {
                x.mark(0, 0, j, panels[n][j]);
            }
            due("asked of panel " + n, x.asked(0, 0), due[n]);
        }
    }

    private static void see() {
        promise = 12;
        GymDesk x = Desks.under("part a 3 in 0; fault out 3; fault step 2 each;");
        x.enter(0);
        x.enter(0);
        x.begin(0, 2);
        x.entry(0, 2, 0);
        x.entry(0, 2, -1);
        x.entry(0, 2, 0);
        due("no gymnast", x.see(2, 2, 0, 0, 0), -2);
        due("no apparatus", x.see(0, 4, 0, 0, 0), -2);
        due("no judge", x.see(0, 2, 4, 0, 0), -2);
        due("judge -1", x.see(0, 2, -1, 0, 0), -2);
        due("no fault", x.see(0, 2, 0, 2, 0), -2);
        due("fault -1", x.see(0, 2, 0, -1, 0), -2);
        due("no fault, no entry", x.see(0, 2, 0, 2, 9), -2);
        due("no routine", x.see(1, 2, 0, 0, 0), -1);
        due("no entry", x.see(0, 2, 0, 0, 3), -1);
        due("entry -1", x.see(0, 2, 0, 0, -1), -1);
        due("once a routine", x.see(0, 2, 0, 0, 0), 3);
        due("whoever saw it", x.see(0, 2, 3, 0, 0), 3);
        due("wherever", x.see(0, 2, 1, 0, 2), 3);
        due("once an entry", x.see(0, 2, 1, 1, 0), 5);
        due("whoever saw that", x.see(0, 2, 2, 1, 0), 5);
        due("a torn entry", x.see(0, 2, 2, 1, 1), 7);
        due("one behind it", x.see(0, 2, 2, 1, 2), 9);
        due("told", x.routine(0, 2, 3), 9);
        for (int j = 0; j < 4; j++) {
            x.mark(0, 2, j, 0);
        }
        due("posted less faults", x.post(0, 2, 0), 300 + 10000 - 900);
        due("seen then", x.see(0, 2, 2, 1, 2), -1);
    }

    private static void post() {
        promise = 13;
        GymDesk x = Desks.under("part a 3 in 0; fault f 50 each;");
        for (int g = 0; g < 5; g++) {
            x.enter(g);
        }
        due("no gymnast", x.post(5, 0, 0), -2);
        due("no apparatus", x.post(0, 4, 0), -2);
        due("ahead of the clock", x.post(0, 0, -1), -2);
        due("no routine", x.post(0, 0, 0), -1);
        Desks.performBy(x, 0, 0, 7, 0);
        due("posted", x.post(0, 0, 7), 300 + 10000 - 700);
        due("again", x.post(0, 0, 7), -1);
        due("the clock goes ahead of that", x.post(0, 0, 6), -2);
        x.begin(1, 0);
        for (int j = 0; j < 3; j++) {
            x.mark(1, 0, j, 0);
        }
        due("a mark is wanting", x.post(1, 0, 99), -1);
        due("no clock of a refused one", x.count(14), 7);
        x.mark(1, 0, 3, 90);
        due("one is asked", x.post(1, 0, 8), -1);
        x.mark(1, 0, 3, 90);
        due("posted without entries, the same time", x.post(1, 0, 7), 10000);
        Desks.performBy(x, 2, 0, 100, 0, 0, 0);
        due("100 off", x.post(2, 0, Integer.MAX_VALUE), 300);
        Desks.performBy(x, 3, 0, 100, 0, 0, 0);
        x.see(3, 0, 0, 0, 1);
        due("not below 0", x.post(3, 0, Integer.MAX_VALUE), 0);
        due("the clock", x.count(14), Integer.MAX_VALUE);
        due("a time below", x.post(4, 0, Integer.MAX_VALUE - 1), -2);
    }

    /** E of a panel's marks, each judge marking twice where asked. */
    private static void execution() {
        promise = 14;
        int[][] panels = {{37}, {1, 2}, {1, 1, 3}, {0, 1, 2, 3}, {5, 5, 6, 7, 8}, {1, 2, 3, 4, 5, 5}};
        int[] due = {3700, 150, 166, 150, 600, 350};
        for (int n = 0; n < panels.length; n++) {
            GymDesk x = Desks.under("panel " + panels[n].length + " span 50;");
            x.enter(0);
            x.begin(0, 0);
            for (int j = 0; j < panels[n].length; j++) {
                x.mark(0, 0, j, panels[n][j]);
            }
            due("score of panel " + n, x.post(0, 0, 1), 10000 - due[n]);
            due("E of panel " + n, x.routine(0, 0, 9), due[n]);
        }
    }

    private static void choice(String text, int worth, int choice, int... entries) {
        GymDesk x = Desks.under(text);
        x.enter(0);
        x.begin(0, 0);
        for (int p : entries) {
            x.entry(0, 0, p);
        }
        due("D under «" + text + "»", x.routine(0, 0, 1), worth);
        due("choice under «" + text + "»", x.routine(0, 0, 2), choice);
    }

    private static void choices() {
        promise = 14;
        String three = "part a 3 in 0; part b 4 in 1; part c 5 in 2; part d 3 in 3 as a;";
        choice(three, 12, 7, 0, 1, 2);
        choice(three, 12, 7, 0, 1, 2, 3, 0);
        choice(three + "counts 1;", 5, 4, 0, 1, 2);
        choice(three + "counts 2;", 9, 6, 0, 1, 2);
        choice(three + "counts 1;", 3, 1, 0);
        choice(three, 0, 0, -1, 0, 1);
        choice(three, 4, 1, 1, -1, 2);
        choice(three + "limit 0 of 2;", 7, 3, 0, 1, 2);
        String same = "part a 3 in 0; part b 3 in 0; part c 3 in 0; part d 2 in 1;";
        choice(same + "limit 2 of 0;", 6, 3, 0, 1, 2);
        choice(same + "counts 2; ", 6, 3, 0, 1, 2);
        choice(same + "limit 2 of 0;", 8, 7, 3, 0, 1, 2);
        choice(same + "limit 1 of 0;", 5, 5, 0, 1, 3);
        choice(same + "counts 1;", 3, 2, 3, 0, 1);
    }

    private static void linksAndGroups() {
        promise = 14;
        String three = "part a 3 in 0; part b 3 in 0; part c 3 in 1;";
        choice(three + "link a b 4;", 10, 3, 0, 1);
        choice(three + "link a b 4;", 6, 3, 1, 0);
        choice(three + "link a b 4;", 9, 7, 0, 2, 1);
        choice(three + "link a b 4;", 9, 13, 0, 0, 1, 2);
        choice(three + "link a a 9;", 3, 1, 0, 0);
        choice(three + "link b c 4; counts 2;", 10, 6, 0, 1, 2);
        choice(three + "group 0 needs 2 worth 7; counts 2;", 13, 3, 0, 1, 2);
        choice(three + "group 0 needs 3 worth 7;", 9, 7, 0, 1, 2);
        choice(three + "group 1 needs 1 worth 7; counts 1;", 10, 4, 0, 1, 2);
        choice(three + "short 3 less 9;", 0, 3, 0, 1);
        choice(three + "short 3 less 5;", 1, 3, 0, 1);
        choice(three + "short 3 less 5;", 9, 7, 0, 1, 2);
        choice(three + "short 10 less 99;", 0, 0);
        choice("part a 1 in 0; part b 1 in 0; part c 1 in 1; limit 1 of 0; group 0 needs 2 worth 20;", 2, 5, 0, 1, 2);
    }

    private static void manyEntries() {
        promise = 14;
        StringBuilder text = new StringBuilder();
        for (int p = 0; p < 16; p++) {
            text.append("part ").append((char) ('a' + p)).append(' ').append(p < 8 ? 5 : 6).append(" in ")
                .append(p % 5).append(';');
        }
        GymDesk x = Desks.under(text + "counts 10; limit 2 of 0; link a b 9;");
        x.enter(0);
        x.begin(0, 0);
        for (int p = 0; p < 16; p++) {
            x.entry(0, 0, p);
        }
        // a and b by their link; of 8 .. 15 all but one of group 0, since a and two of 10, 15 are too many.
        due("D of 16 entries", x.routine(0, 0, 1), 5 + 5 + 9 + 7 * 6 + 5);
        due("choice of 16 entries", x.routine(0, 0, 2), 3 | 4 | 0x7f00);
    }

    private static void evenGroups() {
        promise = 14;
        StringBuilder text = new StringBuilder();
        for (int p = 0; p < 16; p++) {
            text.append("part ").append((char) ('a' + p)).append(" 1 in ").append(p % 5).append(';');
        }
        GymDesk x = Desks.under(text + "counts 10;");
        x.enter(0);
        x.begin(0, 0);
        for (int p = 0; p < 16; p++) {
            x.entry(0, 0, p);
            due("D of " + (p + 1), x.routine(0, 0, 1), Math.min(p + 1, 10));
            due("choice of " + (p + 1), x.routine(0, 0, 2), (1 << Math.min(p + 1, 10)) - 1);
        }
        GymDesk y = Desks.under(text + "counts 10; group 4 needs 3 worth 1; link o p 1; limit 3 of 0;");
        y.enter(0);
        y.begin(0, 0);
        for (int p = 0; p < 16; p++) {
            y.entry(0, 0, p);
        }
        // e, j and o meet the need, p has its link: six more from a on, but of a, f, k and p not all.
        due("D of the last two", y.routine(0, 0, 1), 12);
        due("choice of the last two", y.routine(0, 0, 2), 0xc200 | 0x7f);
    }

    private static void routine() {
        promise = 14;
        GymDesk x = Desks.under("part a 3 in 0; part b 4 in 1 as a; part c 5 in 1; fault f 1;");
        x.enter(0);
        for (int what = -1; what < 40; what++) {
            due("no routine's " + what, x.routine(0, 0, what), -9);
            due("no gymnast's " + what, x.routine(1, 0, what), -9);
            due("no apparatus's " + what, x.routine(0, 4, what), -9);
        }
        x.begin(0, 0);
        int[] entries = {0, 1, 2, -1, 1, 0};
        for (int p : entries) {
            x.entry(0, 0, p);
        }
        x.see(0, 0, 0, 0, 5);
        x.mark(0, 0, 2, 4);
        x.mark(0, 0, 3, 4);
        int[] open = {6, 8, 5, 1, 0, 0, 2, 1, -9, -9, -9, -9, -9, -9, -9, -9, -9, -9, -9, -9, 0, 1, 2, -1, 1, 0, -9};
        for (int what = 0; what < open.length; what++) {
            due("an open routine's " + what, x.routine(0, 0, what), open[what]);
        }
        x.mark(0, 0, 0, 4);
        x.mark(0, 0, 1, 4);
        x.post(0, 0, 3);
        int[] posted = {6, 8, 5, 1, 1, 0, 4, 1, 10300, 400, 3, -9};
        for (int what = 0; what < posted.length; what++) {
            due("a posted routine's " + what, x.routine(0, 0, what), posted[what]);
        }
        due("below", x.routine(0, 0, -1), -9);
        due("the least", x.routine(0, 0, Integer.MIN_VALUE), -9);
        due("the most", x.routine(0, 0, Integer.MAX_VALUE), -9);
        due("entry 16", x.routine(0, 0, 36), -9);
    }

    private static void inquire() {
        promise = 15;
        GymDesk x = Desks.under("part a 3 in 0;");
        due("no gymnast", x.inquire(0, 0, 0), -2);
        Desks.perform(x, 5, 0, 0, 0);
        Desks.perform(x, 5, 0, 0, 0);
        Desks.perform(x, 6, 0, 0, 0);
        Desks.perform(x, 6, 0, 0, 0);
        due("no apparatus", x.inquire(0, -1, 0), -2);
        due("no routine", x.inquire(0, 1, 0), -1);
        due("not posted", x.inquire(0, 0, 0), -1);
        x.post(0, 0, 10);
        x.post(1, 0, 10);
        x.post(2, 0, 10);
        due("below the clock", x.inquire(0, 0, 9), -2);
        due("not posted and late", x.inquire(3, 0, 90), -1);
        due("no clock of a refused one", x.count(14), 10);
        due("a fee", x.inquire(0, 0, 12), 1);
        due("its clock", x.count(14), 12);
        due("once", x.inquire(0, 0, 12), -1);
        due("five behind it, and a second fee", x.inquire(1, 0, 15), 2);
        due("six behind it", x.inquire(2, 0, 16), -1);
        due("the clock is not moved by that", x.inquire(2, 0, 15), 1);
        due("waits", x.routine(0, 0, 5), 1);
        x.answer(0, 0, 0, 0);
        due("not once more behind the answer", x.inquire(0, 0, 15), -1);
        x.post(3, 0, Integer.MAX_VALUE - 2);
        due("late times", x.inquire(3, 0, Integer.MAX_VALUE), 2);
    }

    private static void answer() {
        promise = 16;
        GymDesk x = Desks.under("part a 3 in 0; part b 9 in 0; part c 3 in 1; part d 1 in 1; fault f 2;");
        int g = Desks.perform(x, 5, 3, 1, 0, 2, -1, 0);
        due("nothing to answer", x.answer(g, 3, 0, 1), -1);
        x.see(g, 3, 0, 0, 0);
        x.post(g, 3, 4);
        due("none waits", x.answer(g, 3, 0, 1), -1);
        x.inquire(g, 3, 4);
        due("no gymnast", x.answer(1, 3, 0, 1), -2);
        due("no apparatus", x.answer(g, 4, 0, 1), -2);
        due("no part", x.answer(g, 3, 0, 4), -2);
        due("torn is no part", x.answer(g, 3, 0, -1), -2);
        due("no part of no entry", x.answer(g, 3, 9, 4), -2);
        due("no entry", x.answer(g, 3, 4, 1), -1);
        due("entry -1", x.answer(g, 3, -1, 1), -1);
        due("torn", x.answer(g, 3, 2, 1), -1);
        due("no routine", x.answer(g, 0, 0, 1), -1);
        due("still waits", x.routine(g, 3, 5), 1);
        due("granted", x.answer(g, 3, 0, 1), 1200 + 10000 - 100 - 200);
        due("the entry is so", x.routine(g, 3, 20), 1);
        due("D is so", x.routine(g, 3, 1), 12);
        due("the score is so", x.routine(g, 3, 8), 10900);
        due("the list is so", x.place(3, 0, 1), 10900);
        due("told so", x.routine(g, 3, 5), 2);
        due("the fee came back", x.fees(5), 0);
        due("when it was posted stays", x.routine(g, 3, 10), 4);
        due("answered once", x.answer(g, 3, 0, 0), -1);
        int h = Desks.perform(x, 5, 3, 1, 0, 2, -1, 0);
        x.post(h, 3, 4);
        x.inquire(h, 3, 4);
        due("no greater", x.answer(h, 3, 3, 1), 0);
        due("the entry stays", x.routine(h, 3, 23), 0);
        due("told not granted", x.routine(h, 3, 5), 3);
        due("the fee is gone", x.fees(5), 1);
        due("answered", x.answer(h, 3, 0, 1), -1);
        int k = Desks.perform(x, 6, 3, 1, 0, 2);
        x.post(k, 3, 4);
        x.inquire(k, 3, 4);
        due("the same D", x.answer(k, 3, 0, 0), 0);
        due("the choice stays", x.routine(k, 3, 2), 3);
        due("D stays", x.routine(k, 3, 1), 6);
        due("the score stays", x.routine(k, 3, 8), 10500);
    }

    private static void answerOfRepeats() {
        promise = 16;
        GymDesk x = Desks.under("part a 3 in 0; part b 9 in 0; part c 4 in 1; short 3 less 20; team 6 of 6;");
        int g = Desks.perform(x, 5, 0, 0, 0, 0);
        x.post(g, 0, 0);
        x.inquire(g, 0, 0);
        due("D stays 0", x.answer(g, 0, 1, 2), 0);
        due("repeats stay", x.routine(g, 0, 7), 1);
        due("the choice stays", x.routine(g, 0, 2), 1);
        int h = Desks.perform(x, 5, 0, 0, 0, 0, 1, 2);
        due("repeats", x.routine(h, 0, 7), 1);
        x.post(h, 0, 0);
        x.inquire(h, 0, 0);
        due("a repeat held for a part ahead of it", x.answer(h, 0, 0, 2), 0);
        int k = Desks.perform(x, 5, 0, 0, 0, 0, 1);
        x.post(k, 0, 0);
        due("short", x.routine(k, 0, 1), 0);
        x.inquire(k, 0, 0);
        due("no longer short", x.answer(k, 0, 1, 2), 11600);
        due("no repeats then", x.routine(k, 0, 7), 0);
        due("choice then", x.routine(k, 0, 2), 7);
    }

    private static void withdraw() {
        promise = 17;
        GymDesk x = Desks.under("team 1 of 1;");
        due("no gymnast", x.withdraw(0, 0), -2);
        x.enter(0);
        due("list 5", x.withdraw(0, 5), -2);
        due("list -1", x.withdraw(0, -1), -2);
        due("gymnast -1", x.withdraw(-1, 0), -2);
        for (int a = 0; a < 5; a++) {
            due("withdraws from " + a, x.withdraw(0, a), 1);
            due("again from " + a, x.withdraw(0, a), -1);
        }
        for (int a = 0; a < 4; a++) {
            Desks.performBy(x, 0, a, 0);
            x.post(0, a, 0);
            due("stands in no list", x.list(a), 0);
            due("counts for the land", x.land(0, a), 10000);
        }
        due("nor in that of all", x.list(4), 0);
        due("counts for the land's total", x.land(0, 4), 40000);
    }

    /** Four gymnasts of two lands, at all apparatuses: the last begins at three only. */
    private static GymDesk meeting() {
        GymDesk x = Desks.under("part a 3 in 0; part b 1 in 0; part c 4 in 0; team 2 of 1; final 2 land 1;");
        int[] lands = {1, 1, 2, 2};
        for (int land : lands) {
            x.enter(land);
        }
        int[][] marks = {{1, 4, 4, 4}, {1, 4, 4, 4}, {3, 4, 2, 4}, {4, 4, 4, 4}};
        for (int g = 0; g < 4; g++) {
            for (int a = 0; a < 4; a++) {
                if (g != 3 || a != 3) {
                    Desks.performBy(x, g, a, marks[g][a], g == 2 && a == 0 ? 0 : 1);
                    x.post(g, a, 0);
                }
            }
        }
        return x;
    }

    private static void list() {
        promise = 18;
        GymDesk x = meeting();
        int[] sizes = {4, 4, 4, 3, 3};
        for (int a = 0; a < 5; a++) {
            due("list(" + a + ")", x.list(a), sizes[a]);
        }
        due("list(5)", x.list(5), -2);
        due("list(-1)", x.list(-1), -2);
        Desks.performBy(x, 3, 3, 0, 1);
        due("not posted", x.list(3), 3);
        due("not all posted", x.list(4), 3);
        x.post(3, 3, 0);
        due("posted", x.list(3), 4);
        due("all posted", x.list(4), 4);
        x.withdraw(3, 0);
        due("withdrawn", x.list(0), 3);
        due("not from all", x.list(4), 4);
        x.withdraw(3, 4);
        due("from all", x.list(4), 3);
        due("not from an apparatus", x.list(1), 4);
    }

    private static void placesOf(GymDesk x, int a, int what, int... due) {
        for (int i = 0; i < due.length; i++) {
            due("place(" + a + ", " + i + ", " + what + ")", x.place(a, i, what), due[i]);
        }
        due("no place " + due.length, x.place(a, due.length, what), -1);
    }

    private static void place() {
        promise = 19;
        GymDesk x = meeting();
        // At 0: 10000 for 0 and 1 with E 100, for 2 with E 300; 9700 for 3.
        placesOf(x, 0, 0, 0, 1, 2, 3);
        placesOf(x, 0, 1, 10000, 10000, 10000, 9700);
        placesOf(x, 0, 2, 1, 1, 1, 4);
        placesOf(x, 0, 3, 1, 0, 1, 0);
        placesOf(x, 2, 0, 2, 0, 1, 3);
        placesOf(x, 2, 2, 1, 2, 2, 2);
        placesOf(x, 2, 3, 1, 1, 0, 0);
        placesOf(x, 4, 0, 2, 0, 1);
        placesOf(x, 4, 1, 39300, 39100, 39100);
        placesOf(x, 4, 2, 1, 2, 2);
        placesOf(x, 4, 3, 1, 1, 0);
        due("place -1", x.place(0, -1, 0), -1);
        due("list -1", x.place(-1, 0, 0), -1);
        due("list 5", x.place(5, 0, 0), -1);
        due("what 4", x.place(0, 0, 4), -1);
        due("what -1", x.place(0, 0, -1), -1);
        x.withdraw(0, 0);
        placesOf(x, 0, 0, 1, 2, 3);
        placesOf(x, 0, 2, 1, 1, 3);
    }

    private static void placesOfLikes() {
        promise = 19;
        GymDesk x = Desks.under("part a 1 in 0; part b 2 in 0; part c 30 in 0; fault f 1; fault h 2; panel 1 span 0; team 6 of 6;");
        int[] part = {0, 1, 2, 1, 0};
        int[] mark = {10, 20, 20, 10, 10};
        for (int g = 0; g < 5; g++) {
            Desks.perform(x, g, 0, mark[g], part[g]);
        }
        x.see(3, 0, 0, 0, 0);
        for (int g = 0; g < 5; g++) {
            x.post(g, 0, 0);
        }
        // 9100 for 0, 3 and 4 (E 1000; D 1, 2, 1), 11000 for 2, 8200 for 1.
        placesOf(x, 0, 0, 2, 3, 0, 4, 1);
        placesOf(x, 0, 1, 11000, 9100, 9100, 9100, 8200);
        placesOf(x, 0, 2, 1, 2, 2, 2, 5);
    }

    private static void finalist() {
        promise = 20;
        GymDesk x = meeting();
        due("the first", x.finalist(0, 0), 0);
        due("the first of another land", x.finalist(0, 1), 2);
        due("no third", x.finalist(0, 2), -1);
        due("finalist -1", x.finalist(0, -1), -1);
        due("list 5", x.finalist(5, 0), -1);
        due("list -1", x.finalist(-1, 0), -1);
        due("of all", x.finalist(4, 1), 0);
        x.withdraw(0, 0);
        due("the next moves up", x.finalist(0, 0), 1);
        GymDesk y = new GymDesk();
        for (int n = 0; n < 12; n++) {
            Desks.perform(y, n / 3, 0, n);
            y.post(n, 0, 0);
        }
        int[] due = {0, 1, 3, 4, 6, 7, 9, 10, -1};
        for (int i = 0; i < due.length; i++) {
            due("eight, two of a land: " + i, y.finalist(0, i), due[i]);
        }
        GymDesk z = Desks.under("final 3 land 3; team 6 of 6;");
        for (int n = 0; n < 5; n++) {
            Desks.perform(z, 7, 0, n);
            z.post(n, 0, 0);
        }
        due("full", z.finalist(0, 2), 2);
        due("no more", z.finalist(0, 3), -1);
        due("not in it", z.place(0, 3, 3), 0);
    }

    private static void land() {
        promise = 21;
        GymDesk x = Desks.under("team 3 of 2;");
        int[] marks = {5, 1, 3};
        for (int g = 0; g < 3; g++) {
            Desks.perform(x, 9, 0, marks[g]);
            x.post(g, 0, 0);
            Desks.performBy(x, g, 2, 10);
        }
        due("the best two", x.land(9, 0), 9900 + 9700);
        due("none posted", x.land(9, 2), 0);
        due("none begun", x.land(9, 1), 0);
        x.post(0, 2, 0);
        due("one posted", x.land(9, 2), 9000);
        due("its total", x.land(9, 4), 9900 + 9700 + 9000);
        due("another land", x.land(8, 4), 0);
        due("no land", x.land(10, 0), -2);
        due("land -1", x.land(-1, 0), -2);
        due("apparatus 5", x.land(0, 5), -2);
        due("apparatus -1", x.land(0, -1), -2);
        x.withdraw(1, 0);
        due("the best two still", x.land(9, 0), 9900 + 9700);
        GymDesk y = Desks.under("team 6 of 4;");
        int[] six = {40, 10, 30, 20, 60, 50};
        for (int g = 0; g < 6; g++) {
            Desks.perform(y, 0, 3, six[g]);
            y.post(g, 3, 0);
        }
        due("the best four of six", y.land(0, 3), 40000 - 10000);
    }

    private static void standing() {
        promise = 22;
        GymDesk x = new GymDesk();
        int[] lands = {3, 5, 7, 7};
        int[] marks = {2, 2, 1, 1};
        for (int g = 0; g < 4; g++) {
            Desks.perform(x, lands[g], g, marks[g]);
            x.post(g, g, 0);
        }
        due("the greatest", x.standing(7), 1);
        due("the next", x.standing(3), 2);
        due("the same", x.standing(5), 2);
        due("those without", x.standing(0), 4);
        due("no land", x.standing(10), -2);
        due("land -1", x.standing(-1), -2);
    }

    private static void count() {
        promise = 23;
        GymDesk x = Desks.under("part a 3 in 0; part b 3 in 0; part c 3 in 0; link a b 1; link a a 1; fault f 2;"
            + "panel 2 span 7; counts 5; short 6 less 9; team 3 of 2; final 10 land 6;"
            + "group 1 needs 2 worth 3; group 4 needs 10 worth 20; limit 0 of 0; limit 7 of 4;");
        int[] due = {3, 2, 1, 2, 7, 5, 6, 9, 3, 2, 10, 6, 0, 0, 0, 0, -1, -1, -1, -1, 0, 2, 0, 0, 10, -1, -1, -1, -1, -1,
            0, 3, 0, 0, 20, -1, -1, -1, -1, -1, 0, -1, -1, -1, 7, -1, -1, -1, -1, -1, -1};
        for (int what = 0; what < due.length; what++) {
            due("count(" + what + ")", x.count(what), due[what]);
        }
        due("count(-1)", x.count(-1), -1);
        due("count(least)", x.count(Integer.MIN_VALUE), -1);
        due("count(most)", x.count(Integer.MAX_VALUE), -1);
        x.feed(0, 0, 0, 0, 0);
        due("bytes", x.count(13), 20);
        Desks.perform(x, 0, 0, 0);
        Desks.perform(x, 0, 0, 0);
        due("gymnasts", x.count(12), 2);
        due("none posted", x.count(15), 0);
        x.post(1, 0, 6);
        due("posted", x.count(15), 1);
        due("the clock", x.count(14), 6);
        x.inquire(1, 0, 8);
        due("the clock of an inquiry", x.count(14), 8);
        x.post(0, 0, 8);
        due("two posted", x.count(15), 2);
    }

    private static void fees() {
        promise = 24;
        GymDesk x = Desks.under("part a 1 in 0; part b 2 in 0;");
        for (int n = 0; n < 3; n++) {
            Desks.perform(x, 4, 0, 0, 0);
            x.post(n, 0, 0);
            due("ahead of inquiry " + n, x.fees(4), n);
            x.inquire(n, 0, 0);
        }
        due("three", x.fees(4), 3);
        x.answer(1, 0, 0, 1);
        due("one came back", x.fees(4), 2);
        x.answer(2, 0, 0, 0);
        due("one did not", x.fees(4), 2);
        due("another land's", x.fees(5), 0);
        due("no land", x.fees(10), -2);
        due("land -1", x.fees(-1), -2);
        due("land least", x.fees(Integer.MIN_VALUE), -2);
    }

    public static void main(String[] args) {
        aNewObject();
        feed();
        end();
        codeTakesAText();
        aSecondMeeting();
        syntaxAndNames();
        numbersAndTwice();
        roomAndTheLatestFault();
        part();
        enter();
        begin();
        entry();
        mark();
        asked();
        see();
        post();
        execution();
        choices();
        linksAndGroups();
        manyEntries();
        evenGroups();
        routine();
        inquire();
        answer();
        answerOfRepeats();
        withdraw();
        list();
        place();
        placesOfLikes();
        finalist();
        land();
        standing();
        count();
        fees();
        System.out.println("PromiseTest: " + checks + " checks, " + wrong + " wrong");
        if (wrong != 0) {
            System.exit(1);
        }
    }
}
