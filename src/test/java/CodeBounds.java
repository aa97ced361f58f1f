/** The bounds that the document names of the tape and of codes: "Terms" I, promises 1 to 6 and 23. */
final class CodeBounds {
    private static final int SYNTAX = 1;
    private static final int NAME = 2;
    private static final int RANGE = 3;
    private static final int ROOM = 4;
    private static final int TWICE = 5;

    private static final String[] QUOTED = {"part", "in", "as", "link", "group", "needs", "worth", "limit", "of",
        "counts", "short", "less", "fault", "each", "panel", "span", "team", "final", "land"};
    private static final String FIRST_WORDS = " part link group limit counts short fault panel team final ";

    /** Each form of a line, tokens parted by blanks, behind a line that tells part a. */
    private static final String[] LINES = {"part b 3 in 0 ;", "part b 3 in 0 as a ;", "link a a 1 ;",
        "group 1 needs 1 worth 1 ;", "limit 1 of 1 ;", "counts 1 ;", "short 1 less 1 ;", "fault a 1 ;",
        "fault a 1 each ;", "panel 1 span 1 ;", "team 1 of 1 ;", "final 1 land 1 ;"};
    private static final String[] WRONG_TOKENS = {";", "1", "zz", ".", "abcdefghijk", "1234", "A"};

    private static final int FEEDS = 150;
    private static final int BLANK = 0x20202020;

    private final Sheet sheet;

    CodeBounds(Sheet sheet) {
        this.sheet = sheet;
    }

    void run() {
        constants();
        tapeAndTokens();
        grammar();
        boundsOfNumbers();
        partsAndLinks();
        faultsInOrder();
        namesRoomAndTwice();
        promise1();
        promise2();
        promise3();
        promise4();
        promise5();
        promise6();
        promise23();
    }

    private void constants() {
        sheet.section("Terms");
        sheet.says("`NONE = -1`: There is none.");
        sheet.due("NONE", GymDesk.NONE, -1);
        sheet.says("`RANGE = -2`: A number that can't be.");
        sheet.due("RANGE", GymDesk.RANGE, -2);
        sheet.says("`FULL = -3`: No room.");
        sheet.due("FULL", GymDesk.FULL, -3);
        sheet.passesOver("The constants:");
        sheet.passesOver("Ahead of the calls `enter`, `begin`, `entry`, `mark`, `asked`, `see`, `post`, `routine`,"
            + " `inquire`, `answer`, `withdraw` the interface says: ---- the meeting.");
        sheet.passesOver("Ahead of the calls `list`, `place`, `finalist`, `land`, `standing`, `count`, `fees` the"
            + " interface says: ---- lists.");
    }

    /** A desk with a full tape of blanks. */
    private static GymDesk fullOfBlanks() {
        GymDesk x = new GymDesk();
        for (int n = 0; n < FEEDS; n++) {
            x.feed(BLANK, BLANK, BLANK, BLANK, BLANK);
        }
        return x;
    }

    private void tapeAndTokens() {
        sheet.section("Terms");
        sheet.says("I. CODES. THE TAPE has at most 3000 bytes.");
        GymDesk x = fullOfBlanks();
        sheet.due("bytes behind 150 feeds", x.count(13), 3000);
        sheet.due("the 151st feed", x.feed(BLANK, BLANK, BLANK, BLANK, BLANK), -3);
        sheet.due("bytes then", x.count(13), 3000);
        String last = "counts 3;";
        sheet.good(Desks.blanks(3000 - last.length()) + last, 0);
        sheet.bad(Desks.blanks(2999) + "x", SYNTAX, 2999);
        sheet.bad("counts" + Desks.blanks(2994), SYNTAX, 3000);
        sheet.bad(Desks.blanks(2992) + "counts 9", SYNTAX, 3000);
        sheet.bad(Desks.blanks(2991) + "counts 11", RANGE, 2998);
        sheet.bad(Desks.blanks(2994) + "counts", SYNTAX, 3000);
        sheet.bad(Desks.blanks(2990) + "abcdefghij", SYNTAX, 2990);
        blanksBetween();
        wordsAndNumbers();
        fullestCode();
    }

    private void blanksBetween() {
        sheet.says("TOKENS, with any blanks (32, 10) between:");
        sheet.good("", 0);
        sheet.good(" ", 0);
        sheet.good("\n", 0);
        sheet.good("\n \n part\n\na  3 \n in 0 ; \n", 1);
        sheet.good("part a 3in 0;part b 1in 0as a;", 2);
        for (int b = 0; b < 256; b++) {
            String text = "counts" + (char) b + "1;";
            if (b == 32 || b == 10 || b == '0') {
                sheet.good(text, 0);
            } else if (b >= '1' && b <= '9') {
                sheet.bad(text, RANGE, 6);
            } else {
                sheet.bad(text, SYNTAX, b >= 'a' && b <= 'z' ? 0 : 6);
            }
        }
    }

    private void wordsAndNumbers() {
        sheet.says("WORDS (small letters, as many as there are, 10 at most),");
        for (String name : new String[] {"a", "z", "abcdefghij", "zzzzzzzzzz", "aaaaaaaaaa"}) {
            sheet.good("part " + name + " 3 in 0; link " + name + " " + name + " 1;", 1);
        }
        sheet.good("part abcdefghij 3 in 0; part abcdefghii 3 in 0; part bbcdefghij 3 in 0; part abcdefghi 3 in 0;", 4);
        sheet.bad("part abcdefghijk 3 in 0;", SYNTAX, 5);
        sheet.bad("part abcdefghij 3 in 0; link abcdefghijk", SYNTAX, 29);
        sheet.bad("part abcdefghij 3 in 0; part abcdefghij", NAME, 29);
        sheet.bad("partpartpartpart a", SYNTAX, 0);
        sheet.bad("parta 3 in 0;", SYNTAX, 0);
        sheet.bad("pa rt a 3 in 0;", SYNTAX, 0);
        sheet.bad("part {", SYNTAX, 5);
        sheet.bad("part a 1 in 0; link {", SYNTAX, 20);
        sheet.bad("part a 1 in 0; link a {", SYNTAX, 22);
        sheet.bad("part a 1 in 0; link `", SYNTAX, 20);
        sheet.bad("part `", SYNTAX, 5);
        sheet.bad("part A", SYNTAX, 5);
        sheet.bad("part Z", SYNTAX, 5);
        sheet.bad("part aA", SYNTAX, 6);
        sheet.says("NUMBERS (digits, as many as there are, 3 at most), ; .");
        String[] nines = {"9", "09", "009"};
        for (String nine : nines) {
            GymDesk x = new GymDesk();
            sheet.due("code with " + nine, Desks.code(x, "part a " + nine + " in 0;"), 1);
            sheet.due(nine, x.part(0, 0), 9);
        }
        sheet.bad("part a 0009 in 0;", SYNTAX, 7);
        sheet.bad("part a 1000 in 0;", SYNTAX, 7);
        sheet.bad("part a 999 in 0;", RANGE, 7);
        sheet.bad("part a 0 9 in 0;", RANGE, 7);
        sheet.bad("part a 1 9 in 0;", SYNTAX, 9);
        sheet.bad("part a 1/ in 0;", SYNTAX, 8);
        sheet.bad("part a 1: in 0;", SYNTAX, 8);
        sheet.good("part a 10 in 0;", 1);
        sheet.good("part a 19 in 0;", 1);
        sheet.bad("part a 1 in 0:", SYNTAX, 13);
        sheet.bad("part a 1 in 0<", SYNTAX, 13);
    }

    /** No code without another fault has more tokens than this one: 471, so the 701st is never come to. */
    private void fullestCode() {
        sheet.says("At most 700.");
        StringBuilder text = new StringBuilder("part xaa 1 in 0;");
        for (int p = 1; p < 30; p++) {
            text.append("part ").append(Desks.name(p)).append(" 1 in 0 as xaa;");
        }
        text.append(Desks.links(20, 30));
        for (int g = 0; g < 5; g++) {
            text.append("group ").append(g).append(" needs 1 worth 1;limit 1 of ").append(g).append(';');
        }
        text.append("counts 1;short 1 less 1;panel 1 span 1;team 1 of 1;final 1 land 1;");
        text.append(Desks.faults(10, 1).replace(";", " each;"));
        sheet.due("tokens of the fullest code", text.toString().replace(";", " ; ").split(" +").length, 471);
        sheet.good(text.toString(), 30);
        sheet.bad(text + ";", SYNTAX, text.length());
    }

    private void grammar() {
        sheet.section("Terms");
        sheet.says("code = {line \";\"}.");
        sheet.good("", 0);
        sheet.good("counts 1;", 0);
        sheet.good("counts 1;limit 1 of 1;short 1 less 1;", 0);
        sheet.bad(";", SYNTAX, 0);
        sheet.bad("counts 1", SYNTAX, 8);
        sheet.bad("counts 1 panel", SYNTAX, 9);
        sheet.bad("counts 1;;", SYNTAX, 9);
        sheet.says("line = \"part\" NAME N \"in\" G [\"as\" NAME] | \"link\" NAME NAME N | \"group\" G \"needs\" N \"worth\""
            + " N | \"limit\" N \"of\" G | \"counts\" N | \"short\" N \"less\" N | \"fault\" NAME N [\"each\"] |"
            + " \"panel\" N \"span\" N | \"team\" N \"of\" N | \"final\" N \"land\" N.");
        for (String line : LINES) {
            sheet.good("part a 3 in 0; " + line, line.startsWith("part") ? 2 : 1);
            cutAndSpoil("part a 3 in 0; ", line.split(" "));
        }
        sheet.says("NAMES are WORDS but those quoted here.");
        for (String q : QUOTED) {
            sheet.bad("part " + q + " 3 in 0;", SYNTAX, 5);
            sheet.bad("fault " + q + " 3;", SYNTAX, 6);
            sheet.bad("part a 3 in 0; part b 3 in 0 as " + q, SYNTAX, 32);
            sheet.bad("part a 3 in 0; link " + q, SYNTAX, 20);
            sheet.bad("part a 3 in 0; link a " + q, SYNTAX, 22);
            sheet.good("part x" + q + " 3 in 0; part " + q + "x 3 in 0; part " + q.substring(1)
                + "q 3 in 0 as x" + q + "; fault x" + q + " 1;", 3);
        }
        sheet.good("part code 1 in 0; part line 1 in 0; part name 1 in 0; part n 1 in 0; part g 1 in 0;", 5);
    }

    /** A line that ends behind each of its tokens, and one with each other token in each token's place. */
    private void cutAndSpoil(String ahead, String[] tokens) {
        String text = ahead;
        for (int k = 0; k < tokens.length; k++) {
            if (k > 0) {
                sheet.bad(text.trim(), SYNTAX, text.trim().length());
                sheet.bad(text + "\n ", SYNTAX, text.length() + 2);
            }
            for (String other : WRONG_TOKENS) {
                spoil(text, tokens, k, other);
            }
            for (String other : QUOTED) {
                spoil(text, tokens, k, other);
            }
            text += tokens[k] + " ";
        }
    }

    private void spoil(String text, String[] tokens, int k, String other) {
        if (!goesOn(tokens, k, other)) {
            sheet.bad(text + other, SYNTAX, text.length());
            sheet.bad(text + other + " ; counts 1;", SYNTAX, text.length());
        }
    }

    /** Whether a code can go on with another token in the place of a line's token. */
    private static boolean goesOn(String[] tokens, int k, String other) {
        if (k == 0) {
            return FIRST_WORDS.contains(" " + other + " ");
        }
        if (tokens[k].equals("a") || tokens[k].equals("b")) {
            return other.equals("zz");
        }
        if (Character.isDigit(tokens[k].charAt(0))) {
            return other.equals("1");
        }
        boolean canHaveAs = tokens[0].equals("part") && k == 5;
        boolean canHaveEach = tokens[0].equals("fault") && k == 3;
        return other.equals(tokens[k]) || canHaveAs && (other.equals("as") || other.equals(";"))
            || canHaveEach && (other.equals("each") || other.equals(";"));
    }

    /** The least and the greatest number that may stand between two texts, and the next ones on both sides. */
    private void number(String ahead, int least, int most, String behind) {
        for (int n = least; n <= most; n++) {
            GymDesk x = new GymDesk();
            sheet.due("code of «" + ahead + n + behind + "»", Desks.code(x, ahead + n + behind) >= 0 ? 1 : 0, 1);
        }
        if (least > 0) {
            sheet.bad(ahead + (least - 1) + behind, RANGE, ahead.length());
        }
        sheet.bad(ahead + (most + 1) + behind, RANGE, ahead.length());
        sheet.bad(ahead + 999 + behind, RANGE, ahead.length());
    }

    private void boundsOfNumbers() {
        sheet.section("Terms");
        sheet.says("part: worth N 1 .. 30, group G 0 .. 4;");
        number("part a ", 1, 30, " in 0;");
        number("part a 1 in ", 0, 4, ";");
        sheet.says("link: of two parts told ahead (also one with itself), the second one directly behind the first,"
            + " worth N 1 .. 9.");
        number("part a 1 in 0; part b 1 in 0; link a b ", 1, 9, ";");
        sheet.good("part a 1 in 0; link a a 1;", 1);
        sheet.bad("link a a 1; part a 1 in 0;", NAME, 5);
        sheet.bad("part a 1 in 0; link a b 1; part b 1 in 0;", NAME, 22);
        sheet.says("group: at least N 1 .. 10 that count of it are worth N 1 .. 20 more.");
        number("group ", 0, 4, " needs 1 worth 1;");
        number("group 0 needs ", 1, 10, " worth 1;");
        number("group 0 needs 1 worth ", 1, 20, ";");
        sheet.says("limit: at most N 0 .. 10 of G count.");
        number("limit ", 0, 10, " of 0;");
        number("limit 0 of ", 0, 4, ";");
        sheet.says("counts: at most N 1 .. 10 count in all (8 at first).");
        number("counts ", 1, 10, ";");
        sheet.says("short: if fewer than N 1 .. 10 count, N 1 .. 99 less.");
        number("short ", 1, 10, " less 1;");
        number("short 1 less ", 1, 99, ";");
        sheet.says("fault: N 1 .. 50 off, once a routine, or with each once an entry.");
        number("fault a ", 1, 50, ";");
        number("fault a ", 1, 50, " each;");
        sheet.says("panel: N judges 1 .. 6 (4 at first), a span N 0 .. 50 (3 at first).");
        number("panel ", 1, 6, " span 0;");
        number("panel 1 span ", 0, 50, ";");
        sheet.says("team: of a land's N 1 .. 6 at an apparatus (first N), the best so many (second N, 1 .. the first"
            + " one) count (4 of 3 at first: \"team 4 of 3\").");
        number("team ", 1, 6, " of 1;");
        for (int n = 1; n <= 6; n++) {
            number("team " + n + " of ", 1, n, ";");
        }
        sheet.says("final: N 1 .. 10 gymnasts (8 at first), at most N 1 .. 10 of a land (2 at first).");
        number("final ", 1, 10, " land 1;");
        number("final 1 land ", 1, 10, ";");
    }

    private void partsAndLinks() {
        sheet.section("Terms");
        sheet.says("as: of one KIND with that part (told ahead; its KIND then).");
        GymDesk x = Desks.under("part a 1 in 0; part b 1 in 1 as a; part c 1 in 2 as b; part d 1 in 0; part e 1 in 0 as d;");
        int[] kinds = {0, 0, 0, 3, 3};
        for (int p = 0; p < kinds.length; p++) {
            sheet.due("the least part of the kind of " + p, x.part(p, 2), kinds[p]);
        }
        sheet.bad("part a 1 in 0 as a;", NAME, 17);
        sheet.bad("part a 1 in 0 as b; part b 1 in 0;", NAME, 17);
        sheet.bad("fault b 1; part a 1 in 0 as b;", NAME, 28);
    }

    private void faultsInOrder() {
        sheet.section("Terms");
        sheet.says("FAULTS: KIND and PLACE (a TOKEN's first byte; the text's length at its end);");
        sheet.bad("x", SYNTAX, 0);
        sheet.bad(" \n x", SYNTAX, 3);
        sheet.bad("counts\n\n  abc", SYNTAX, 10);
        sheet.bad("counts", SYNTAX, 6);
        sheet.bad("counts 1", SYNTAX, 8);
        sheet.bad("counts 1  \n", SYNTAX, 11);
        sheet.bad("part a 031 in 0;", RANGE, 7);
        sheet.says("the first come to as TOKENS are read one by one,");
        sheet.bad("part a 31 of 9 . counts", RANGE, 7);
        sheet.bad("part a 1 of 9 .", SYNTAX, 9);
        sheet.bad("counts 1; counts 11 11", TWICE, 10);
        sheet.bad("counts 1; panel 7; counts", RANGE, 16);
        sheet.bad("part a 1 in 0; part a 31", NAME, 20);
        sheet.bad("part a 1 in 0; link b c 10", NAME, 20);
        sheet.bad("limit 11 of 5; limit", RANGE, 6);
        sheet.bad("limit 1 of 1; limit 11 of 1", RANGE, 20);
        sheet.bad("group 1 needs 1 worth 1; group 1 needs 11", TWICE, 31);
        sheet.bad(Desks.parts(30, 1, 0) + "part xaa 31", ROOM, Desks.parts(30, 1, 0).length());
        sheet.says("of one TOKEN the least KIND:");
        String links = Desks.parts(5, 1, 0) + Desks.links(20, 5);
        sheet.bad("part a 1 in 0; link abcdefghijk", SYNTAX, 20);
        sheet.bad("counts 1000", SYNTAX, 7);
        sheet.bad("group 1 needs 1 worth 1; group 1000", SYNTAX, 31);
        sheet.bad("group 1 needs 1 worth 1; group 5", RANGE, 31);
        sheet.bad("counts 1; part counts", SYNTAX, 15);
        sheet.bad(links + "part link", SYNTAX, links.length() + 5);
        sheet.bad(links + "link xaa", ROOM, links.length());
        sheet.bad(links + "link zz", ROOM, links.length());
        sheet.says("1 SYNTAX: a TOKEN with which no code goes on, or that is none.");
        for (String none : new String[] {".", "A", "\t", "\r", "\u0000", "\u0080", "\u00e1", "\u00ff", "-", "abcdefghijk", "0001"}) {
            sheet.bad("counts " + none, SYNTAX, 7);
            sheet.bad(none, SYNTAX, 0);
            sheet.bad("counts 1 ; " + none, SYNTAX, 11);
        }
        sheet.bad("in", SYNTAX, 0);
        sheet.bad("counts counts", SYNTAX, 7);
        sheet.bad("counts 1 1", SYNTAX, 9);
        sheet.bad("part a 1 in 0 as", SYNTAX, 16);
    }

    private void namesRoomAndTwice() {
        sheet.section("Terms");
        sheet.says("2 NAME: of a part (fault) one that is there already (parts and faults have each their own);"
            + " elsewhere one of no part told ahead.");
        sheet.bad("part a 1 in 0; part a 1 in 0;", NAME, 20);
        sheet.bad("part a 1 in 0; part b 1 in 0; part a 1 in 0;", NAME, 35);
        sheet.bad("fault a 1; fault a 1;", NAME, 17);
        sheet.good("fault a 1; part a 1 in 0; part b 1 in 0; fault b 1;", 2);
        sheet.bad("part a 1 in 0; part b 1 in 0 as c;", NAME, 32);
        sheet.bad("part a 1 in 0; link b a 1;", NAME, 20);
        sheet.bad("part a 1 in 0; link a b 1;", NAME, 22);
        sheet.bad("part a 1 in 0; fault b 1; link a b 1;", NAME, 33);
        sheet.bad(Desks.parts(30, 1, 0) + "link xbd xbe", NAME, Desks.parts(30, 1, 0).length() + 9);
        sheet.good(Desks.parts(30, 1, 0) + "link xbd xaa 1;", 30);
        sheet.says("3 RANGE: a number out of its bounds.");
        sheet.bad("counts 0", RANGE, 7);
        sheet.bad("counts 11", RANGE, 7);
        sheet.good("counts 10;", 0);
        sheet.good("counts 001;", 0);
        sheet.says("4 ROOM: the 701st TOKEN; the 31st part, the 21st link, the 11th fault (at its first WORD).");
        String parts = Desks.parts(30, 1, 0);
        sheet.good(parts, 30);
        sheet.bad(parts + " part", ROOM, parts.length() + 1);
        sheet.bad(parts + "part xaa", ROOM, parts.length());
        String links = Desks.parts(5, 1, 0) + Desks.links(20, 5);
        sheet.good(links, 5);
        sheet.bad(links + " link", ROOM, links.length() + 1);
        String faults = Desks.faults(10, 1);
        sheet.good(faults, 0);
        sheet.bad(faults + " fault", ROOM, faults.length() + 1);
        sheet.good(parts + Desks.links(20, 30) + faults, 30);
        sheet.says("5 TWICE: a link of the same two (at its second NAME), a group or limit of the same G (at it), a"
            + " second counts, short, panel, team, final (at the WORD).");
        twice();
    }

    private void twice() {
        sheet.bad("part a 1 in 0; link a a 1; link a a 1;", TWICE, 34);
        sheet.bad("part a 1 in 0; part b 1 in 0; link a b 1; link a a 1; link a b 9;", TWICE, 61);
        sheet.good("part a 1 in 0; part b 1 in 0; link a b 1; link a a 1; link b b 1;", 2);
        for (int g = 0; g < 5; g++) {
            String group = "group " + g + " needs 1 worth 1; ";
            String limit = "limit 0 of " + g + "; ";
            sheet.bad(group + "group " + g + " needs 1 worth 1;", TWICE, group.length() + 6);
            sheet.bad(limit + "limit 3 of " + g + ";", TWICE, limit.length() + 11);
            sheet.good(group + limit + "group " + (g + 1) % 5 + " needs 1 worth 1; limit 0 of " + (g + 1) % 5 + ";", 0);
        }
        String[] once = {"counts 8;", "short 1 less 1;", "panel 4 span 3;", "team 4 of 3;", "final 8 land 2;"};
        StringBuilder all = new StringBuilder();
        for (String line : once) {
            sheet.good(line, 0);
            sheet.bad(line + line, TWICE, line.length());
            all.append(line);
        }
        sheet.good(all.toString(), 0);
        for (String line : once) {
            sheet.bad(all + line, TWICE, all.length());
        }
    }

    private void promise1() {
        sheet.section("Promise 1: A new object");
        sheet.says("No code (no parts, numbers as at first), nobody.");
        GymDesk x = new GymDesk();
        asAtFirst(x, 0);
        sheet.due("part(0, 0)", x.part(0, 0), -1);
        sheet.due("a gymnast", x.begin(0, 0), -2);
        for (int a = 0; a < 5; a++) {
            sheet.due("list " + a, x.list(a), 0);
            sheet.due("a place of it", x.place(a, 0, 0), -1);
            sheet.due("a finalist of it", x.finalist(a, 0), -1);
        }
        for (int land = 0; land < 10; land++) {
            sheet.due("total of land " + land, x.land(land, 4), 0);
            sheet.due("standing of land " + land, x.standing(land), 1);
            sheet.due("fees of land " + land, x.fees(land), 0);
        }
        sheet.due("code of the empty tape", x.code(), 0);
    }

    /** All that count() tells, with so many parts and nothing else told. */
    private void asAtFirst(GymDesk x, int parts) {
        int[] first = {parts, 0, 0, 4, 3, 8, 0, 0, 4, 3, 8, 2, 0, 0, 0, 0, -1, -1, -1, -1, 0, 0, 0, 0, 0, -1, -1, -1,
            -1, -1, 0, 0, 0, 0, 0, -1, -1, -1, -1, -1, -1, -1, -1, -1, -1, -1};
        for (int what = 0; what < first.length; what++) {
            sheet.due("count(" + what + ")", x.count(what), first[what]);
        }
    }

    /** A feed of blanks but for one byte. */
    private static int feedOneByte(GymDesk x, int at, int value) {
        int[] words = {BLANK, BLANK, BLANK, BLANK, BLANK};
        int shift = 24 - 8 * (at % 4);
        words[at / 4] = words[at / 4] & ~(255 << shift) | value << shift;
        return x.feed(words[0], words[1], words[2], words[3], words[4]);
    }

    private void promise2() {
        sheet.section("Promise 2: feed");
        sheet.says("Twenty bytes come behind THE TAPE, the highest of each int first: how many it has;");
        for (int at = 0; at < 20; at++) {
            for (int value : new int[] {0, 'x', 128, 255}) {
                GymDesk x = new GymDesk();
                sheet.due("the first feed", feedOneByte(x, at, ' '), 20);
                sheet.due("the second feed", feedOneByte(x, at, value), 40);
                sheet.due("code with byte " + value, x.code(), -1);
                sheet.due("its place", x.fault(1), 20 + at);
            }
        }
        sheet.says("FULL when there would be more than 3000.");
        GymDesk x = new GymDesk();
        for (int n = 1; n <= FEEDS; n++) {
            sheet.due("feed " + n, x.feed(BLANK, BLANK, BLANK, BLANK, BLANK), 20 * n);
        }
        sheet.due("of a full tape", x.feed(0, 0, 0, 0, 0), -3);
        for (int n = 2999; n > 2980; n--) {
            sheet.due("end", x.end(n), n);
            sheet.due("behind " + n, x.feed(0, 0, 0, 0, 0), -3);
            sheet.due("bytes still", x.count(13), n);
        }
        sheet.due("end", x.end(2980), 2980);
        sheet.due("behind 2980", x.feed(BLANK, BLANK, BLANK, BLANK, BLANK), 3000);
        sheet.due("nothing came of those that were refused", x.code(), 0);
    }

    private void promise3() {
        sheet.section("Promise 3: end");
        sheet.says("THE TAPE has its first n bytes alone: n;");
        for (int n = 0; n <= 20; n++) {
            GymDesk x = new GymDesk();
            feedOneByte(x, 9, 'x');
            sheet.due("end(" + n + ")", x.end(n), n);
            sheet.due("bytes", x.count(13), n);
            sheet.due("code of the first " + n, x.code(), n > 9 ? -1 : 0);
        }
        cut("counts 12;", 8, SYNTAX, 8);
        cut("counts 1;", 8, SYNTAX, 8);
        cut("part ab 1 in 0; part a 1 in 0; link ab b 1;", 40, NAME, 39);
        cut("part a 1 in 0; link ab a 1;", 21, SYNTAX, 21);
        cut("counts 1;;", 9, 0, -1);
        sheet.says("NONE when it has not so many, or n is below 0.");
        GymDesk x = new GymDesk();
        sheet.due("end(0) of none", x.end(0), 0);
        sheet.due("end(1) of none", x.end(1), -1);
        feedOneByte(x, 19, 'x');
        for (int n : new int[] {21, 3000, 3001, Integer.MAX_VALUE, -1, -20, Integer.MIN_VALUE}) {
            sheet.due("end(" + n + ") of 20", x.end(n), -1);
            sheet.due("bytes still", x.count(13), 20);
        }
        sheet.due("end(20) of 20", x.end(20), 20);
        sheet.due("end(19)", x.end(19), 19);
        sheet.due("end(20) of 19", x.end(20), -1);
        sheet.due("the first 19 still", x.code(), 0);
        x = fullOfBlanks();
        sheet.due("end(3001) of 3000", x.end(3001), -1);
        sheet.due("end(3000) of 3000", x.end(3000), 3000);
    }

    /** The fault of a text that is fed whole and then cut. */
    private void cut(String text, int n, int kind, int place) {
        GymDesk x = new GymDesk();
        Desks.tell(x, text);
        sheet.due("end(" + n + ") of «" + text + "»", x.end(n), n);
        sheet.due("its code", x.code() == -1 ? 1 : 0, kind == 0 ? 0 : 1);
        sheet.due("kind", x.fault(0), kind);
        sheet.due("place", x.fault(1), place);
    }

    private void promise4() {
        sheet.section("Promise 4: code");
        sheet.says("THE TAPE (empty then) is a code: how many parts;");
        GymDesk x = new GymDesk();
        for (int n = 0; n <= 30; n++) {
            x = n % 10 == 0 ? new GymDesk() : x;
            sheet.due("code of " + n + " parts", Desks.code(x, Desks.parts(n, 1, 0)), n);
            sheet.due("bytes then", x.count(13), 0);
            sheet.due("end(1) then", x.end(1), -1);
        }
        sheet.due("code of the empty tape", x.code(), 0);
        sheet.says("all is as at first but for it (numbers that it doesn't tell, too).");
        asAtFirstBehindEachCode();
        sheet.says("NONE with a FAULT.");
        x = Desks.under("part a 9 in 4; panel 2 span 7;");
        sheet.due("a text with a fault", Desks.code(x, "part b 1 in 0; x"), -1);
        sheet.due("its tape", x.count(13), 0);
        sheet.due("the part told ahead of the fault isn't there", x.part(0, 0), 9);
        sheet.due("a text cut", Desks.code(x, "part b 1 in 0"), -1);
        sheet.due("the empty text is without", x.code(), 0);
    }

    /** Codes in turn, so that nothing of any earlier one or of its meeting is left. */
    private void asAtFirstBehindEachCode() {
        String full = Desks.parts(3, 1, 0) + Desks.links(2, 3) + Desks.faults(2, 1) + "panel 2 span 7; counts 9;"
            + "short 2 less 3; team 5 of 4; final 7 land 6;";
        for (int g = 0; g < 5; g++) {
            full += "group " + g + " needs 1 worth 2; limit 3 of " + g + ";";
        }
        GymDesk x = Desks.under(full);
        meet(x);
        sheet.due("the same code once more", Desks.code(x, full), 3);
        nobodyIsLeft(x);
        x = new GymDesk();
        for (int turn = 0; turn < 3; turn++) {
            sheet.due("a full code", Desks.code(x, full), 3);
            sheet.due("links of it", x.part(0, 3), 2);
            sheet.due("faults of it", x.count(2), 2);
            meet(x);
            sheet.due("a code of one part", Desks.code(x, "part a 1 in 0;"), 1);
            if (turn == 0) {
                asAtFirst(x, 1);
            }
            sheet.due("links of it", x.part(0, 3), 0);
            sheet.due("links", x.count(1), 0);
            sheet.due("faults", x.count(2), 0);
            sheet.due("the second part", x.part(1, 0), -1);
            nobodyIsLeft(x);
        }
        for (int turn = 0; turn < 2; turn++) {
            Desks.code(x, "");
            asAtFirst(x, 0);
        }
    }

    /** A meeting of one gymnast of land 0 with two routines that are told of all there is. */
    private static void meet(GymDesk x) {
        x.enter(0);
        for (int a = 0; a < 2; a++) {
            x.begin(0, a);
            x.entry(0, a, 0);
            x.entry(0, a, 1);
            x.see(0, a, 0, 0, 0);
            x.see(0, a, 0, 1, 1);
            x.mark(0, a, 0, 0);
            x.mark(0, a, 1, 60);
            x.withdraw(0, a);
        }
        x.withdraw(0, 4);
        x.mark(0, 0, 1, 60);
        x.post(0, 0, 9);
        x.inquire(0, 0, 9);
    }

    private void nobodyIsLeft(GymDesk x) {
        sheet.due("gymnasts", x.count(12), 0);
        sheet.due("the latest time", x.count(14), 0);
        sheet.due("posted", x.count(15), 0);
        sheet.due("no gymnast", x.begin(0, 0), -2);
        sheet.due("fees", x.fees(0), 0);
        sheet.due("list", x.list(0), 0);
        sheet.due("land", x.land(0, 4), 0);
        sheet.due("the first gymnast anew", x.enter(0), 0);
        for (int a = 0; a < 2; a++) {
            sheet.due("no routine of it", x.routine(0, a, 0), -9);
            sheet.due("not withdrawn", x.withdraw(0, a), 1);
            sheet.due("begun", x.begin(0, a), 1);
            int[] fresh = {0, 0, 0, 0, 0, 0, 0, 0, -9, -9, -9};
            for (int what = 2; what < fresh.length; what++) {
                sheet.due("what " + what + " of it", x.routine(0, a, what), fresh[what]);
            }
            sheet.due("D of it", x.routine(0, a, 1), 0);
            sheet.due("entries of it", x.routine(0, a, 0), 0);
            sheet.due("asked", x.asked(0, a), 0);
            sheet.due("no score of it", x.land(0, a), 0);
            sheet.due("judge 1 hasn't marked", x.mark(0, a, 1, 5), 1);
        }
        sheet.due("not withdrawn from all", x.withdraw(0, 4), 1);
        sheet.due("a time of 0, marks wanting", x.post(0, 0, 0), -1);
    }

    private void promise5() {
        sheet.section("Promise 5: fault");
        sheet.says("Of the latest code(): its FAULT's KIND (what 0; 0 without, ahead of any, too), its PLACE (1; NONE).");
        GymDesk x = new GymDesk();
        sheet.due("kind ahead of any", x.fault(0), 0);
        sheet.due("place ahead of any", x.fault(1), -1);
        String[] texts = {"counts", "link a", "counts 0", Desks.faults(10, 1) + "fault", "counts 1; counts", "x"};
        int[] kinds = {SYNTAX, NAME, RANGE, ROOM, TWICE, SYNTAX};
        int[] places = {6, 5, 7, 120, 10, 0};
        for (int n = 0; n < texts.length; n++) {
            Desks.code(x, texts[n]);
            sheet.due("kind of " + texts[n], x.fault(0), kinds[n]);
            sheet.due("place of " + texts[n], x.fault(1), places[n]);
            Desks.tell(x, "counts 1;");
            sheet.due("still the latest code()'s", x.fault(0), kinds[n]);
        }
        Desks.code(x, "counts 1;");
        sheet.due("kind without", x.fault(0), 0);
        sheet.due("place without", x.fault(1), -1);
        sheet.says("NONE for another what.");
        for (int what : new int[] {-1, 2, 5, Integer.MIN_VALUE, Integer.MAX_VALUE}) {
            sheet.due("fault(" + what + ") without", x.fault(what), -1);
        }
        Desks.code(x, "   x");
        sheet.due("fault(2) with one", x.fault(2), -1);
        sheet.due("fault(-1) with one", x.fault(-1), -1);
    }

    private void promise6() {
        sheet.section("Promise 6: part");
        sheet.says("Of part p, what 0: worth, 1: group, 2: the least part of its KIND, 3: links that begin with it.");
        GymDesk x = Desks.under("part a 1 in 0; part b 30 in 4 as a; part c 2 in 1; part d 3 in 2 as b; link b a 1;"
            + "link b b 2; link b c 9; link a b 3; link d b 3;");
        int[][] due = {{1, 0, 0, 1}, {30, 4, 0, 3}, {2, 1, 2, 0}, {3, 2, 0, 1}};
        for (int p = 0; p < due.length; p++) {
            for (int what = 0; what < 4; what++) {
                sheet.due("part(" + p + ", " + what + ")", x.part(p, what), due[p][what]);
            }
        }
        GymDesk y = Desks.under(Desks.parts(30, 7, 3) + Desks.links(20, 20));
        sheet.due("the thirtieth part", y.part(29, 0), 7);
        sheet.due("its kind", y.part(29, 2), 29);
        sheet.due("twenty links", y.part(0, 3), 20);
        sheet.says("NONE when there is none such.");
        for (int what = -1; what < 6; what++) {
            sheet.due("of part 4", x.part(4, what), -1);
            sheet.due("of part -1", x.part(-1, what), -1);
            sheet.due("of part 30", y.part(30, what), -1);
            sheet.due("of the most", x.part(Integer.MAX_VALUE, what), -1);
            sheet.due("of the least", x.part(Integer.MIN_VALUE, what), -1);
        }
        sheet.due("what -1", x.part(3, -1), -1);
        sheet.due("what 4", x.part(3, 4), -1);
        sheet.due("what most", x.part(3, Integer.MAX_VALUE), -1);
        sheet.due("what least", x.part(3, Integer.MIN_VALUE), -1);
    }

    private void toldAs(String line, int what, int due) {
        sheet.due("count(" + what + ") of «" + line + "»", Desks.under(line).count(what), due);
    }

    private void promise23() {
        sheet.section("Promise 23: count");
        sheet.says("What 0: parts, 1: links, 2: faults, 3: judges, 4: span, 5: how many count, 6: short (0 without),"
            + " 7: less (0), 8, 9: team's two numbers, 10, 11: final's two;");
        asAtFirst(new GymDesk(), 0);
        for (int n = 1; n <= 10; n++) {
            toldAs(Desks.parts(3 * n, 1, 0), 0, 3 * n);
            toldAs(Desks.parts(5, 1, 0) + Desks.links(2 * n, 5), 1, 2 * n);
            toldAs(Desks.faults(n, 1), 2, n);
            toldAs("panel 1 span " + (5 * n - 5) + ";", 4, 5 * n - 5);
            toldAs("counts " + n + ";", 5, n);
            toldAs("short " + n + " less 99;", 6, n);
            toldAs("short 1 less " + 9 * n + ";", 7, 9 * n);
            toldAs("final " + n + " land 1;", 10, n);
            toldAs("final 1 land " + n + ";", 11, n);
        }
        toldAs("panel 1 span 50;", 4, 50);
        toldAs("short 1 less 99;", 7, 99);
        for (int n = 1; n <= 6; n++) {
            toldAs("panel " + n + " span 0;", 3, n);
            toldAs("team " + n + " of 1;", 8, n);
            toldAs("team 6 of " + n + ";", 9, n);
        }
        countsOfTheMeeting();
        sheet.says("20 + g: group g needs (0 without), 30 + g: it is worth, 40 + g: its limit (NONE without).");
        for (int g = 0; g < 5; g++) {
            GymDesk x = Desks.under("group " + g + " needs 10 worth 20; limit 0 of " + g + ";");
            for (int other = 0; other < 5; other++) {
                sheet.due("needs", x.count(20 + other), other == g ? 10 : 0);
                sheet.due("worth", x.count(30 + other), other == g ? 20 : 0);
                sheet.due("limit", x.count(40 + other), other == g ? 0 : -1);
            }
            toldAs("limit 10 of " + g + ";", 40 + g, 10);
            toldAs("group " + g + " needs 1 worth 1;", 20 + g, 1);
            toldAs("group " + g + " needs 1 worth 1;", 30 + g, 1);
        }
        sheet.says("NONE for others.");
        GymDesk x = new GymDesk();
        for (int what : new int[] {-1, -20, 16, 17, 18, 19, 25, 26, 29, 35, 39, 45, 49, 50, 54, 60, 100, 120,
            Integer.MAX_VALUE, Integer.MIN_VALUE}) {
            sheet.due("count(" + what + ")", x.count(what), -1);
        }
    }

    private void countsOfTheMeeting() {
        sheet.says("12: GYMNASTS, 13: bytes of THE TAPE, 14: the latest time (0), 15: posted SCORES;");
        GymDesk x = Desks.under("panel 1 span 0; team 6 of 6;");
        for (int g = 0; g < 40; g++) {
            sheet.due("gymnasts", x.count(12), g);
            sheet.due("posted", x.count(15), g);
            Desks.perform(x, g % 10, 0, 0);
            x.post(g, 0, 2 * g);
            sheet.due("the latest time", x.count(14), 2 * g);
        }
        x.enter(0);
        sheet.due("gymnasts, no more", x.count(12), 40);
        sheet.due("forty posted", x.count(15), 40);
        x.post(39, 0, 99);
        x.post(0, 0, 77);
        sheet.due("posted once", x.count(15), 40);
        x.inquire(39, 0, 83);
        sheet.due("an inquiry's time", x.count(14), 83);
        x.feed(0, 0, 0, 0, 0);
        x.end(19);
        sheet.due("bytes", x.count(13), 19);
    }
}
