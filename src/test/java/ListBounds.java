/** The bounds that the document names of lists, finals, lands and fees: "Terms" II, promises 17 to 22 and 24. */
final class ListBounds {
    private static final int MOST = Integer.MAX_VALUE;
    private static final int LEAST = Integer.MIN_VALUE;

    private final Sheet sheet;

    ListBounds(Sheet sheet) {
        this.sheet = sheet;
    }

    void run() {
        ordersOfLists();
        listOfAll();
        finals();
        landsScores();
        promise17();
        promise18();
        promise19();
        promise20();
        promise21();
        promise22();
        promise24();
    }

    /** A code of one judge and a part of each worth from 1 on: part p is worth p + 1. */
    private static String worths(String more) {
        StringBuilder text = new StringBuilder();
        for (int p = 0; p < 20; p++) {
            text.append("part ").append(Desks.name(p)).append(' ').append(p + 1).append(" in 0;");
        }
        return text + "fault f 1; fault h 2; panel 1 span 0; team 6 of 6;" + more;
    }

    /** A posted routine of a new gymnast; fault 0 takes a tenth off, 1 takes two, -1 none. */
    private static void posted(GymDesk x, int land, int a, int part, int mark, int fault) {
        int g = Desks.perform(x, land, a, mark, part);
        if (fault >= 0) {
            x.see(g, a, 0, fault, 0);
        }
        x.post(g, a, 0);
    }

    /** What each place of a list tells, and that there is none ahead of the first and none behind the last. */
    private void places(GymDesk x, int a, int what, int... due) {
        for (int i = 0; i < due.length; i++) {
            sheet.due("place " + i + " of list " + a + ", what " + what, x.place(a, i, what), due[i]);
        }
        sheet.due("no place " + due.length, x.place(a, due.length, what), -1);
        sheet.due("no place -1", x.place(a, -1, what), -1);
    }

    private void ordersOfLists() {
        sheet.section("Terms");
        sheet.says("LISTS: at an APPARATUS those GYMNASTS whose SCORES there are posted, and who haven't withdrawn from"
            + " it: by SCORE, then less E, then greater D, then the lesser number.");
        GymDesk x = Desks.under(worths(""));
        posted(x, 0, 0, 4, 10, -1);
        posted(x, 1, 0, 5, 10, -1);
        posted(x, 2, 0, 4, 10, -1);
        posted(x, 3, 0, 3, 9, -1);
        posted(x, 4, 0, 5, 10, 0);
        posted(x, 5, 0, 6, 10, 1);
        posted(x, 6, 0, 9, 15, -1);
        // SCORE 9600 of 1; 9500 of 3 with E 900, of 5, 4, 0, 2 with E 1000 and D 7, 6, 5, 5, of 6 with E 1500.
        places(x, 0, 0, 1, 3, 5, 4, 0, 2, 6);
        places(x, 0, 1, 9600, 9500, 9500, 9500, 9500, 9500, 9500);
        Desks.perform(x, 7, 0, 0, 9);
        sheet.due("one not posted", x.list(0), 7);
        x.post(7, 0, 0);
        sheet.due("it is posted", x.list(0), 8);
        sheet.due("it is the first", x.place(0, 0, 0), 7);
        x.withdraw(7, 0);
        sheet.due("it has withdrawn", x.list(0), 7);
        places(x, 0, 0, 1, 3, 5, 4, 0, 2, 6);
        x.withdraw(0, 1);
        x.withdraw(0, 4);
        sheet.due("one withdrew from others", x.list(0), 7);
        fortyInOrder();
    }

    private void fortyInOrder() {
        GymDesk x = Desks.under("panel 1 span 0;");
        for (int g = 0; g < 40; g++) {
            Desks.perform(x, g % 10, 0, 99 - 2 * g);
            x.post(g, 0, 0);
        }
        sheet.due("forty in a list", x.list(0), 40);
        for (int i = 0; i < 40; i++) {
            sheet.due("place " + i + " of forty", x.place(0, i, 0), 39 - i);
        }
        sheet.due("the place told of the last", x.place(0, 39, 2), 40);
        sheet.due("no 41st", x.place(0, 40, 0), -1);
        for (int land = 0; land < 10; land++) {
            // Gymnasts land + 10, + 20 and + 30 have its best three scores of four.
            sheet.due("score of land " + land, x.land(land, 0), 3 * (100 + 200 * land) + 200 * 60);
            sheet.due("standing of land " + land, x.standing(land), 10 - land);
        }
    }

    /** A gymnast of a land with four posted routines, of these parts and marks. */
    private static void allAround(GymDesk x, int land, int[] parts, int[] marks) {
        int g = x.enter(land);
        for (int a = 0; a < 4; a++) {
            Desks.performBy(x, g, a, marks[a], parts[a]);
            x.post(g, a, 0);
        }
    }

    private void listOfAll() {
        sheet.section("Terms");
        sheet.says("List 4 (all): those with four posted: by the sum of SCORES, then of E, then of D likewise.");
        GymDesk x = Desks.under(worths(""));
        allAround(x, 0, new int[] {4, 4, 4, 4}, new int[] {10, 10, 10, 10});
        allAround(x, 1, new int[] {5, 4, 4, 4}, new int[] {10, 10, 10, 10});
        allAround(x, 2, new int[] {0, 4, 4, 8}, new int[] {2, 10, 10, 18});
        allAround(x, 3, new int[] {4, 4, 3, 4}, new int[] {10, 10, 9, 10});
        int g = x.enter(4);
        for (int a = 0; a < 4; a++) {
            Desks.performBy(x, g, a, 10, a == 0 ? 5 : 4);
        }
        x.see(g, 0, 0, 0, 0);
        for (int a = 0; a < 4; a++) {
            sheet.due(a + " posted", x.list(4), 4);
            x.post(g, a, 0);
        }
        sheet.due("four posted", x.list(4), 5);
        // Sums: 38100 of 1; 38000 of 3 with E 3900, of 4 with D 21, of 0 and 2 with D 20.
        places(x, 4, 0, 1, 3, 4, 0, 2);
        places(x, 4, 1, 38100, 38000, 38000, 38000, 38000);
        places(x, 4, 2, 1, 2, 2, 2, 2);
        for (int a = 0; a < 4; a++) {
            x.withdraw(1, a);
        }
        sheet.due("one withdrew from each apparatus", x.list(4), 5);
        sheet.due("it is the first still", x.place(4, 0, 0), 1);
        x.withdraw(1, 4);
        places(x, 4, 0, 3, 4, 0, 2);
        sheet.due("as many as 512 calls can bring", allAroundAsManyAsCanBe().list(4), 39);
        sheet.due("the last of them", allAroundAsManyAsCanBe().place(4, 38, 1), 38000);
        sheet.due("no place behind it", allAroundAsManyAsCanBe().place(4, 39, 1), -1);
    }

    /** Four calls for the code and 13 a gymnast: the 512th is left. The scores of gymnast 38 are the least. */
    private static GymDesk allAroundAsManyAsCanBe() {
        GymDesk x = Desks.under("panel 1 span 0;");
        for (int n = 0; n < 39; n++) {
            int g = x.enter(n % 10);
            for (int a = 0; a < 4; a++) {
                x.begin(g, a);
                x.mark(g, a, 0, n == 38 ? 5 : 4);
                x.post(g, a, 0);
            }
        }
        return x;
    }

    private void finalists(GymDesk x, int a, int... due) {
        for (int i = 0; i < due.length; i++) {
            sheet.due("finalist " + i + " of list " + a, x.finalist(a, i), due[i]);
        }
        sheet.due("no finalist " + due.length, x.finalist(a, due.length), -1);
        sheet.due("no finalist -1", x.finalist(a, -1), -1);
    }

    /** Gymnasts with posted routines at apparatus 0, each one's mark by 1 greater than the last one's. */
    private static GymDesk inOrder(String text, int... lands) {
        GymDesk x = Desks.under(text + "panel 1 span 0; team 6 of 6;");
        for (int n = 0; n < lands.length; n++) {
            Desks.perform(x, lands[n], 0, n);
            x.post(n, 0, 0);
        }
        return x;
    }

    private void finals() {
        sheet.section("Terms");
        sheet.says("A final has from its list, from the first on, each one of whose land it has not as many as told, till"
            + " it is full.");
        int[] lands = {3, 3, 3, 3, 3, 3, 5, 5, 5, 7, 9, 0, 1, 2, 4};
        finalists(inOrder("final 1 land 1;", lands), 0, 0);
        finalists(inOrder("final 2 land 1;", lands), 0, 0, 6);
        finalists(inOrder("final 10 land 1;", lands), 0, 0, 6, 9, 10, 11, 12, 13, 14);
        finalists(inOrder("final 10 land 2;", lands), 0, 0, 1, 6, 7, 9, 10, 11, 12, 13, 14);
        finalists(inOrder("final 9 land 3;", lands), 0, 0, 1, 2, 6, 7, 8, 9, 10, 11);
        finalists(inOrder("final 10 land 5;", lands), 0, 0, 1, 2, 3, 4, 6, 7, 8, 9, 10);
        finalists(inOrder("final 10 land 6;", lands), 0, 0, 1, 2, 3, 4, 5, 6, 7, 8, 9);
        finalists(inOrder("final 10 land 7;", lands), 0, 0, 1, 2, 3, 4, 5, 6, 7, 8, 9);
        finalists(inOrder("final 10 land 10;", lands), 0, 0, 1, 2, 3, 4, 5, 6, 7, 8, 9);
        finalists(inOrder("final 5 land 10;", lands), 0, 0, 1, 2, 3, 4);
        finalists(inOrder("final 10 land 1;"), 0);
        sheet.says("final: N 1 .. 10 gymnasts (8 at first), at most N 1 .. 10 of a land (2 at first).");
        finalists(inOrder("", lands), 0, 0, 1, 6, 7, 9, 10, 11, 12);
        for (int n = 1; n <= 10; n++) {
            GymDesk x = inOrder("final " + n + " land 2;", 0, 1, 2, 3, 4, 5, 6, 7, 8, 9, 0, 1);
            sheet.due("the last of " + n, x.finalist(0, n - 1), n - 1);
            sheet.due("no more than " + n, x.finalist(0, n), -1);
            sheet.due("in it", x.place(0, n - 1, 3), 1);
            sheet.due("not in it", x.place(0, n, 3), 0);
            GymDesk y = inOrder("final 10 land " + n + ";", 6, 6, 6, 6, 6, 6);
            sheet.due("the last of a land's " + n, y.finalist(0, Math.min(n, 6) - 1), Math.min(n, 6) - 1);
            sheet.due("no more than a land's " + n, y.finalist(0, Math.min(n, 6)), -1);
        }
    }

    private void landsScores() {
        sheet.section("Terms");
        sheet.says("A LAND's score at an APPARATUS: the best SCORES posted of its GYMNASTS, so many as count; its total:"
            + " that of all four. (Who withdraws counts for the LAND.)");
        int[] marks = {30, 10, 60, 20, 50, 40};
        for (int best = 1; best <= 6; best++) {
            GymDesk x = Desks.under("panel 1 span 0; team 6 of " + best + ";");
            int due = 0;
            for (int g = 0; g < 6; g++) {
                Desks.perform(x, 9, 2, marks[g]);
                x.post(g, 2, 0);
                due += g < best ? 10000 - 1000 * (g + 1) : 0;
            }
            sheet.due("the best " + best, x.land(9, 2), due);
            sheet.due("the total", x.land(9, 4), due);
            sheet.due("another land", x.land(8, 2), 0);
            sheet.due("another apparatus", x.land(9, 1), 0);
            for (int g = 0; g < 6; g++) {
                x.withdraw(g, 2);
                x.withdraw(g, 4);
            }
            sheet.due("all withdrew", x.land(9, 2), due);
            sheet.due("the total then", x.land(9, 4), due);
        }
        sheet.says("team: of a land's N 1 .. 6 at an apparatus (first N), the best so many (second N, 1 .. the first"
            + " one) count (4 of 3 at first: \"team 4 of 3\").");
        GymDesk x = new GymDesk();
        for (int g = 0; g < 4; g++) {
            Desks.perform(x, 1, 0, marks[g]);
            sheet.due("without that of " + g, x.land(1, 0), g == 0 ? 0 : g == 1 ? 7000 : g == 2 ? 16000 : 20000);
            x.post(g, 0, 0);
        }
        sheet.due("three of four at first", x.land(1, 0), 9000 + 8000 + 7000);
        x.enter(1);
        sheet.due("no fifth at first", x.begin(4, 0), -3);
        sheet.due("one of two", sumOf("team 2 of 1;"), 10000);
        sheet.due("two of two", sumOf("team 2 of 2;"), 20000);
        sheet.due("one of one", sumOf("team 1 of 1;"), 10000);
    }

    /** The score of a land that would send six gymnasts of 10000 each. */
    private static int sumOf(String text) {
        GymDesk x = Desks.under(text);
        for (int g = 0; g < 6; g++) {
            Desks.perform(x, 1, 0, 0);
            x.post(g, 0, 0);
        }
        return x.land(1, 0);
    }

    private void promise17() {
        sheet.section("Promise 17: withdraw");
        sheet.says("A GYMNAST withdraws from list a (0 .. 4): 1;");
        GymDesk x = new GymDesk();
        x.enter(0);
        x.enter(0);
        for (int a = 0; a <= 4; a++) {
            sheet.due("from " + a, x.withdraw(0, a), 1);
        }
        sheet.says("RANGE;");
        for (int none : new int[] {-1, 5, 32, LEAST, MOST}) {
            sheet.due("from " + none, x.withdraw(0, none), -2);
            sheet.due("the other from " + none, x.withdraw(1, none), -2);
        }
        for (int none : new int[] {-1, 2, LEAST, MOST}) {
            sheet.due("gymnast " + none, x.withdraw(none, 0), -2);
        }
        sheet.says("NONE: withdrawn already.");
        for (int a = 0; a <= 4; a++) {
            sheet.due("again from " + a, x.withdraw(0, a), -1);
            sheet.due("the other from " + a, x.withdraw(1, a), 1);
            sheet.due("the other again from " + a, x.withdraw(1, a), -1);
        }
    }

    private void promise18() {
        sheet.section("Promise 18: list");
        sheet.says("How many stand in list a (0 .. 4; those who withdrew aside);");
        GymDesk x = Desks.under("panel 1 span 0; team 6 of 1;");
        for (int g = 0; g < 3; g++) {
            x.enter(g);
            for (int a = 0; a < 4; a++) {
                sheet.due("ahead of gymnast " + g, x.list(a), g);
                Desks.performBy(x, g, a, 0);
                sheet.due("ahead of the posting", x.list(a), g);
                sheet.due("ahead of four postings", x.list(4), g);
                x.post(g, a, 0);
                sheet.due("behind the posting", x.list(a), g + 1);
            }
            sheet.due("behind four postings", x.list(4), g + 1);
        }
        for (int a = 0; a <= 4; a++) {
            for (int g = 0; g < 3; g++) {
                x.withdraw(g, a);
                sheet.due("withdrew from " + a, x.list(a), 2 - g);
                sheet.due("the next list", x.list((a + 1) % 5), a == 4 ? 0 : 3);
            }
        }
        sheet.says("RANGE.");
        for (int none : new int[] {-1, 5, LEAST, MOST}) {
            sheet.due("list " + none, x.list(none), -2);
        }
    }

    private void promise19() {
        sheet.section("Promise 19: place");
        sheet.says("Of place i of list a, what 0: the GYMNAST, 1: SCORE (sum), 2: the place told: 1 and how many stand"
            + " ahead with another SCORE, 3: 1 if in the final, else 0.");
        GymDesk x = Desks.under(worths("final 3 land 2;"));
        posted(x, 4, 3, 4, 10, -1);
        posted(x, 4, 3, 3, 9, -1);
        posted(x, 4, 3, 9, 10, -1);
        posted(x, 4, 3, 0, 10, -1);
        posted(x, 5, 3, 0, 10, -1);
        // SCORES 9500, 9500 (less E), 10000, 9100, 9100.
        places(x, 3, 0, 2, 1, 0, 3, 4);
        places(x, 3, 1, 10000, 9500, 9500, 9100, 9100);
        places(x, 3, 2, 1, 2, 2, 4, 4);
        places(x, 3, 3, 1, 1, 0, 0, 1);
        x.withdraw(2, 3);
        places(x, 3, 0, 1, 0, 3, 4);
        places(x, 3, 2, 1, 1, 3, 3);
        places(x, 3, 3, 1, 1, 0, 1);
        x.inquire(3, 3, 0);
        sheet.due("a mended score", x.answer(3, 3, 0, 19), 11000);
        places(x, 3, 0, 3, 1, 0, 4);
        places(x, 3, 1, 11000, 9500, 9500, 9100);
        places(x, 3, 2, 1, 2, 2, 4);
        places(x, 3, 3, 1, 1, 0, 1);
        sheet.says("NONE when there is none such.");
        for (int none : new int[] {-1, 4, 39, 40, LEAST, MOST}) {
            sheet.due("place " + none, x.place(3, none, 0), -1);
        }
        for (int none : new int[] {-1, 4, 5, LEAST, MOST}) {
            sheet.due("what " + none, x.place(3, 0, none), -1);
        }
        for (int none : new int[] {-1, 5, LEAST, MOST}) {
            sheet.due("list " + none, x.place(none, 0, 0), -1);
        }
        for (int a : new int[] {0, 1, 2, 4}) {
            sheet.due("the empty list " + a, x.place(a, 0, 0), -1);
        }
    }

    private void promise20() {
        sheet.section("Promise 20: finalist");
        sheet.says("The i-th of the final of list a;");
        GymDesk x = Desks.under(worths("final 3 land 1;"));
        for (int g = 0; g < 6; g++) {
            allAround(x, g / 2, new int[] {g, 5 - g, g, g}, new int[] {1, 1, 1, 9 * g});
        }
        finalists(x, 0, 5, 3, 1);
        finalists(x, 1, 0, 2, 4);
        finalists(x, 2, 5, 3, 1);
        finalists(x, 3, 0, 2, 4);
        finalists(x, 4, 0, 2, 4);
        x.withdraw(5, 0);
        finalists(x, 0, 4, 3, 1);
        x.withdraw(4, 0);
        finalists(x, 0, 3, 1);
        sheet.says("NONE.");
        for (int none : new int[] {-1, 2, 10, 40, LEAST, MOST}) {
            sheet.due("finalist " + none, x.finalist(0, none), -1);
        }
        for (int none : new int[] {-1, 5, LEAST, MOST}) {
            sheet.due("list " + none, x.finalist(none, 0), -1);
        }
        for (int a = 0; a <= 4; a++) {
            sheet.due("of the empty list " + a, new GymDesk().finalist(a, 0), -1);
        }
    }

    private void promise21() {
        sheet.section("Promise 21: land");
        sheet.says("A LAND's score at an APPARATUS, or its total (4);");
        GymDesk x = Desks.under("panel 1 span 0;");
        for (int land : new int[] {0, 9}) {
            int g = x.enter(land);
            int total = 0;
            for (int a = 0; a <= 3; a++) {
                Desks.performBy(x, g, a, 10 * a + land);
                sheet.due("not posted", x.land(land, a), 0);
                sheet.due("the total ahead of it", x.land(land, 4), total);
                total += x.post(g, a, 0);
                sheet.due("posted", x.land(land, a), 10000 - 1000 * a - 100 * land);
                sheet.due("the total", x.land(land, 4), total);
            }
        }
        sheet.due("a land without", x.land(5, 4), 0);
        sheet.says("RANGE.");
        for (int none : new int[] {-1, 10, LEAST, MOST}) {
            sheet.due("land " + none, x.land(none, 0), -2);
        }
        for (int none : new int[] {-1, 5, LEAST, MOST}) {
            sheet.due("apparatus " + none, x.land(0, none), -2);
        }
    }

    private void promise22() {
        sheet.section("Promise 22: standing");
        sheet.says("1 and how many LANDS have a greater total;");
        GymDesk x = Desks.under("panel 1 span 0;");
        int[] marks = {9, 8, 7, 7, 5, 4, 3, 2, 2, 0};
        for (int land = 0; land < 10; land++) {
            sheet.due("nobody posted of " + land, x.standing(land), land + 1);
            Desks.perform(x, land, 3, 90);
            x.post(land, 3, 0);
        }
        for (int land = 0; land < 10; land++) {
            sheet.due("all the same", x.standing(land), 1);
        }
        for (int land = 0; land < 10; land++) {
            Desks.performBy(x, land, 0, marks[land]);
            x.post(land, 0, 0);
        }
        int[] due = {10, 9, 7, 7, 6, 5, 4, 2, 2, 1};
        for (int land = 0; land < 10; land++) {
            sheet.due("standing of " + land, x.standing(land), due[land]);
        }
        sheet.says("RANGE.");
        for (int none : new int[] {-1, 10, LEAST, MOST}) {
            sheet.due("land " + none, x.standing(none), -2);
        }
    }

    private void promise24() {
        sheet.section("Promise 24: fees");
        sheet.says("Fees that a LAND has paid and not got back;");
        GymDesk x = Desks.under("part a 1 in 0; part b 2 in 0; panel 1 span 0; team 6 of 1;");
        for (int g = 0; g < 6; g++) {
            x.enter(9);
            for (int a = 0; a < 4; a++) {
                Desks.performBy(x, g, a, 0, 0);
                x.post(g, a, 0);
                sheet.due("posted", x.fees(9), 4 * g + a);
                x.inquire(g, a, 0);
                sheet.due("inquired", x.fees(9), 4 * g + a + 1);
                x.inquire(g, a, 0);
            }
        }
        sheet.due("a refused one is no fee", x.fees(9), 24);
        for (int g = 0; g < 6; g++) {
            x.answer(g, 0, 0, 0);
            sheet.due("not got back", x.fees(9), 24 - g);
            x.answer(g, 1, 0, 1);
            sheet.due("got back", x.fees(9), 24 - g - 1);
        }
        for (int land = 0; land < 9; land++) {
            sheet.due("land " + land, x.fees(land), 0);
        }
        sheet.says("RANGE.");
        for (int none : new int[] {-1, 10, LEAST, MOST}) {
            sheet.due("land " + none, x.fees(none), -2);
        }
    }
}
