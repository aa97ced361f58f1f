/**
 * A desk of judges of gymnasts: a code in a text tells what parts of routines are worth, a meeting under that code
 * takes routines, marks, faults and inquiries, and lists, finals, lands' scores and fees are told of it.
 */
public final class GymDesk {
    public static final int NONE = -1;
    public static final int RANGE = -2;
    public static final int FULL = -3;

    private static final int NO_ANSWER = -9;

    private static final int MOST_BYTES = 3000;
    private static final int MOST_TOKENS = 700;
    private static final int MOST_LETTERS = 10;
    private static final int MOST_DIGITS = 3;
    private static final int MOST_PARTS = 30;
    private static final int MOST_LINKS = 20;
    private static final int MOST_FAULTS = 10;
    private static final int GROUPS = 5;
    private static final int MOST_JUDGES = 6;
    private static final int MOST_GYMNASTS = 40;
    private static final int LANDS = 10;
    private static final int APPARATUSES = 4;
    private static final int LISTS = 5;
    private static final int ALL = 4;
    private static final int MOST_ENTRIES = 16;
    private static final int MOST_IN_TEAM = 6;
    private static final int MOST_IN_FINAL = 10;
    private static final int MOST_OFF = 100;
    private static final int GRACE = 5;

    private static final int SYNTAX = 1;
    private static final int NAME = 2;
    private static final int BOUNDS = 3;
    private static final int ROOM = 4;
    private static final int TWICE = 5;

    // A code's single numbers stand where count() asks for them.
    private static final int FIRST_NUMBER = 3;
    private static final int JUDGES = 3;
    private static final int SPAN = 4;
    private static final int COUNTS = 5;
    private static final int SHORT = 6;
    private static final int LESS = 7;
    private static final int TEAM = 8;
    private static final int TEAM_BEST = 9;
    private static final int FINAL = 10;
    private static final int FINAL_LAND = 11;
    private static final int NUMBERS = 12;

    private static final int INQUIRED = 1;
    private static final int GRANTED = 2;
    private static final int REFUSED = 3;

    private final byte[] tape = new byte[MOST_BYTES];
    private final Reader reader = new Reader();
    private final Chooser chooser = new Chooser();
    private final Ranking ranking = new Ranking();
    private final Routine[] routines = new Routine[MOST_GYMNASTS * APPARATUSES];
    private final int[] landOf = new int[MOST_GYMNASTS];
    private final int[] withdrawn = new int[MOST_GYMNASTS];
    private final int[] paid = new int[LANDS];
    private final int[] best = new int[MOST_IN_TEAM];
    private Code rules = new Code();
    private Code spare = new Code();
    private int tapeLength;
    private int gymnasts;
    private int latest;
    private int postings;

    public GymDesk() {
        for (int r = 0; r < routines.length; r++) {
            routines[r] = new Routine();
        }
    }

    // ---- the code

    public int feed(int a, int b, int c, int d, int e) {
        if (tapeLength + 20 > MOST_BYTES) {
            return FULL;
        }
        putBytes(a);
        putBytes(b);
        putBytes(c);
        putBytes(d);
        putBytes(e);
        return tapeLength;
    }

    private void putBytes(int four) {
        for (int shift = 24; shift >= 0; shift -= 8) {
            if (tapeLength < MOST_BYTES) {
                tape[tapeLength] = (byte) (four >>> shift);
                tapeLength++;
            }
        }
    }

    public int end(int n) {
        if (n < 0 || n > tapeLength) {
            return NONE;
        }
        tapeLength = n;
        return n;
    }

    public int code() {
        boolean stands = reader.readCode(tape, tapeLength, spare);
        tapeLength = 0;
        if (!stands) {
            return NONE;
        }
        Code read = spare;
        spare = rules;
        rules = read;
        startMeeting();
        return rules.parts;
    }

    private void startMeeting() {
        for (int r = 0; r < routines.length; r++) {
            routines[r].begun = false;
        }
        for (int l = 0; l < LANDS; l++) {
            paid[l] = 0;
        }
        gymnasts = 0;
        latest = 0;
        postings = 0;
    }

    public int fault(int what) {
        if (what == 0) {
            return reader.faultKind;
        }
        return what == 1 ? reader.faultPlace : NONE;
    }

    public int part(int p, int what) {
        if (!rules.hasPart(p)) {
            return NONE;
        }
        switch (what) {
            case 0:
                return rules.worths[p];
            case 1:
                return rules.groups[p];
            case 2:
                return rules.kinds[p];
            case 3:
                return rules.linksFrom(p);
            default:
                return NONE;
        }
    }

    // ---- the meeting

    public int enter(int land) {
        if (!isLand(land)) {
            return RANGE;
        }
        if (gymnasts >= MOST_GYMNASTS) {
            return FULL;
        }
        landOf[gymnasts] = land;
        withdrawn[gymnasts] = 0;
        gymnasts++;
        return gymnasts - 1;
    }

    private static boolean isLand(int land) {
        return land >= 0 && land < LANDS;
    }

    private boolean isGymnast(int g) {
        return g >= 0 && g < gymnasts;
    }

    /** The row of a routine, begun or not; null when there is no such gymnast or apparatus. */
    private Routine rowOf(int g, int a) {
        if (!isGymnast(g) || a < 0 || a >= APPARATUSES) {
            return null;
        }
        return routines[g * APPARATUSES + a];
    }

    public int begin(int g, int a) {
        Routine row = rowOf(g, a);
        if (row == null) {
            return RANGE;
        }
        if (row.begun) {
            return NONE;
        }
        int others = routinesOf(landOf[g], a);
        if (others >= rules.numbers[TEAM]) {
            return FULL;
        }
        row.start();
        return others + 1;
    }

    private int routinesOf(int land, int a) {
        int sum = 0;
        for (int g = 0; g < gymnasts; g++) {
            Routine row = rowOf(g, a);
            if (landOf[g] == land && row != null && row.begun) {
                sum++;
            }
        }
        return sum;
    }

    public int entry(int g, int a, int p) {
        Routine row = rowOf(g, a);
        if (row == null || (p != NONE && !rules.hasPart(p))) {
            return RANGE;
        }
        if (!row.isOpen()) {
            return NONE;
        }
        if (row.length >= MOST_ENTRIES) {
            return FULL;
        }
        row.add(p);
        return row.length;
    }

    public int mark(int g, int a, int judge, int mark) {
        Routine row = rowOf(g, a);
        if (row == null || !isJudge(judge) || mark < 0 || mark > MOST_OFF) {
            return RANGE;
        }
        if (!row.isOpen() || !row.takesMarkOf(judge)) {
            return NONE;
        }
        row.putMark(judge, mark, rules.numbers[JUDGES], rules.numbers[SPAN]);
        return row.marked;
    }

    private boolean isJudge(int judge) {
        return judge >= 0 && judge < rules.numbers[JUDGES];
    }

    public int asked(int g, int a) {
        Routine row = rowOf(g, a);
        if (row == null) {
            return RANGE;
        }
        return row.begun ? row.askedBits : NONE;
    }

    public int see(int g, int a, int judge, int f, int i) {
        Routine row = rowOf(g, a);
        if (row == null || !isJudge(judge) || f < 0 || f >= rules.faults) {
            return RANGE;
        }
        if (!row.isOpen() || !row.hasEntry(i)) {
            return NONE;
        }
        row.seen[f] |= 1 << i;
        return row.takenOff(rules);
    }

    public int post(int g, int a, int time) {
        Routine row = rowOf(g, a);
        if (row == null || time < latest) {
            return RANGE;
        }
        if (!row.isOpen() || row.marked < rules.numbers[JUDGES] || row.askedBits != 0) {
            return NONE;
        }
        refresh(row);
        row.putPosting(time, rules);
        latest = time;
        postings++;
        return row.score;
    }

    /** Makes a routine's D and choice those of its entries; they are looked for only when they are asked for. */
    private void refresh(Routine row) {
        if (row.stale) {
            chooser.choose(rules, row);
            row.takeChoice(chooser.worth, chooser.choice);
        }
    }

    public int routine(int g, int a, int what) {
        Routine row = rowOf(g, a);
        if (row == null || !row.begun) {
            return NO_ANSWER;
        }
        if (what >= 20) {
            return row.hasEntry(what - 20) ? row.entries[what - 20] : NO_ANSWER;
        }
        if (what >= 8) {
            return row.isPosted ? ofPosted(row, what) : NO_ANSWER;
        }
        return ofBegun(row, what);
    }

    private int ofBegun(Routine row, int what) {
        switch (what) {
            case 0:
                return row.length;
            case 1:
                refresh(row);
                return row.difficulty;
            case 2:
                refresh(row);
                return row.choice;
            case 3:
                return row.takenOff(rules);
            case 4:
                return row.isPosted ? 1 : 0;
            case 5:
                return row.inquiry;
            case 6:
                return row.marked;
            case 7:
                return Integer.bitCount(row.repeats(rules));
            default:
                return NO_ANSWER;
        }
    }

    private static int ofPosted(Routine row, int what) {
        switch (what) {
            case 8:
                return row.score;
            case 9:
                return row.execution;
            case 10:
                return row.postedAt;
            default:
                return NO_ANSWER;
        }
    }

    public int inquire(int g, int a, int time) {
        Routine row = rowOf(g, a);
        if (row == null || time < latest) {
            return RANGE;
        }
        if (!row.isScored() || row.inquiry != 0 || time - row.postedAt > GRACE) {
            return NONE;
        }
        row.inquiry = INQUIRED;
        latest = time;
        paid[landOf[g]]++;
        return paid[landOf[g]];
    }

    public int answer(int g, int a, int i, int p) {
        Routine row = rowOf(g, a);
        if (row == null || !rules.hasPart(p)) {
            return RANGE;
        }
        if (!row.isScored() || row.inquiry != INQUIRED || !row.hasEntry(i) || row.entries[i] == NONE) {
            return NONE;
        }
        int held = row.entries[i];
        row.entries[i] = p;
        chooser.choose(rules, row);
        if (chooser.worth <= row.difficulty) {
            row.entries[i] = held;
            row.inquiry = REFUSED;
            return 0;
        }
        row.takeChoice(chooser.worth, chooser.choice);
        row.settleScore(rules);
        row.inquiry = GRANTED;
        paid[landOf[g]]--;
        return row.score;
    }

    public int withdraw(int g, int a) {
        if (!isGymnast(g) || !isList(a)) {
            return RANGE;
        }
        if (hasWithdrawn(g, a)) {
            return NONE;
        }
        withdrawn[g] |= 1 << a;
        return 1;
    }

    private static boolean isList(int a) {
        return a >= 0 && a < LISTS;
    }

    private boolean hasWithdrawn(int g, int a) {
        return (withdrawn[g] >> a & 1) != 0;
    }

    // ---- lists

    public int list(int a) {
        if (!isList(a)) {
            return RANGE;
        }
        rank(a);
        return ranking.length;
    }

    /** Puts a list in order anew; it is empty where there is no such list. */
    private void rank(int a) {
        ranking.clear();
        if (!isList(a)) {
            return;
        }
        int from = a == ALL ? 0 : a;
        int to = a == ALL ? APPARATUSES - 1 : a;
        for (int g = 0; g < gymnasts; g++) {
            if (!hasWithdrawn(g, a)) {
                rankGymnast(g, from, to);
            }
        }
    }

    private void rankGymnast(int g, int from, int to) {
        int score = 0;
        int execution = 0;
        int difficulty = 0;
        for (int a = from; a <= to; a++) {
            Routine row = rowOf(g, a);
            if (row == null || !row.isScored()) {
                return;
            }
            score += row.score;
            execution += row.execution;
            difficulty += row.difficulty;
        }
        ranking.insert(g, score, execution, difficulty);
    }

    public int place(int a, int i, int what) {
        rank(a);
        if (i < 0 || i >= ranking.length) {
            return NONE;
        }
        int g = ranking.order[i];
        switch (what) {
            case 0:
                return g;
            case 1:
                return ranking.scores[g];
            case 2:
                return 1 + ranking.aheadOf(i);
            case 3:
                callFinal();
                return ranking.isFinalist(g) ? 1 : 0;
            default:
                return NONE;
        }
    }

    private void callFinal() {
        ranking.callFinal(rules.numbers[FINAL], rules.numbers[FINAL_LAND], landOf);
    }

    public int finalist(int a, int i) {
        rank(a);
        callFinal();
        if (i < 0 || i >= ranking.finalists) {
            return NONE;
        }
        return ranking.finalOrder[i];
    }

    public int land(int land, int a) {
        if (!isLand(land) || !isList(a)) {
            return RANGE;
        }
        return a == ALL ? totalOf(land) : scoreOf(land, a);
    }

    private int totalOf(int land) {
        int sum = 0;
        for (int a = 0; a < APPARATUSES; a++) {
            sum += scoreOf(land, a);
        }
        return sum;
    }

    private int scoreOf(int land, int a) {
        int kept = 0;
        for (int g = 0; g < gymnasts; g++) {
            Routine row = rowOf(g, a);
            if (landOf[g] == land && row != null && row.isScored()) {
                kept = keepBest(row.score, kept);
            }
        }
        int sum = 0;
        for (int k = 0; k < kept; k++) {
            sum += best[k];
        }
        return sum;
    }

    /** Puts a score among the best ones, greatest first; how many there are then, at most as many as count. */
    private int keepBest(int score, int kept) {
        int most = Math.min(rules.numbers[TEAM_BEST], best.length);
        int at = kept;
        while (at > 0 && best[at - 1] < score) {
            if (at < most) {
                best[at] = best[at - 1];
            }
            at--;
        }
        if (at < most) {
            best[at] = score;
        }
        return Math.min(kept + 1, most);
    }

    public int standing(int land) {
        if (!isLand(land)) {
            return RANGE;
        }
        int own = totalOf(land);
        int ahead = 0;
        for (int l = 0; l < LANDS; l++) {
            if (totalOf(l) > own) {
                ahead++;
            }
        }
        return ahead + 1;
    }

    public int count(int what) {
        if (what >= FIRST_NUMBER && what < NUMBERS) {
            return rules.numbers[what];
        }
        if (what >= 20) {
            return countOfGroup(what);
        }
        switch (what) {
            case 0:
                return rules.parts;
            case 1:
                return rules.links;
            case 2:
                return rules.faults;
            case 12:
                return gymnasts;
            case 13:
                return tapeLength;
            case 14:
                return latest;
            case 15:
                return postings;
            default:
                return NONE;
        }
    }

    private int countOfGroup(int what) {
        int group = what % 10;
        if (group >= GROUPS) {
            return NONE;
        }
        switch (what / 10) {
            case 2:
                return rules.needs[group];
            case 3:
                return rules.bonuses[group];
            case 4:
                return rules.limits[group];
            default:
                return NONE;
        }
    }

    public int fees(int land) {
        return isLand(land) ? paid[land] : RANGE;
    }

    /** What a text told: parts, links, faults, and the numbers that bind a meeting. */
    private static final class Code {
        final int[] worths = new int[MOST_PARTS];
        final int[] groups = new int[MOST_PARTS];
        final int[] kinds = new int[MOST_PARTS];
        final int[] linkFirsts = new int[MOST_LINKS];
        final int[] linkSeconds = new int[MOST_LINKS];
        final int[] linkWorths = new int[MOST_LINKS];
        final int[] faultOffs = new int[MOST_FAULTS];
        final boolean[] faultEach = new boolean[MOST_FAULTS];
        final int[] needs = new int[GROUPS];
        final int[] bonuses = new int[GROUPS];
        final int[] limits = new int[GROUPS];
        final int[] numbers = new int[NUMBERS];
        int parts;
        int links;
        int faults;

        Code() {
            clear();
        }

        /** All numbers as at first, since a text tells only what it changes. */
        void clear() {
            parts = 0;
            links = 0;
            faults = 0;
            for (int g = 0; g < GROUPS; g++) {
                needs[g] = 0;
                bonuses[g] = 0;
                limits[g] = NONE;
            }
            numbers[JUDGES] = 4;
            numbers[SPAN] = 3;
            numbers[COUNTS] = 8;
            numbers[SHORT] = 0;
            numbers[LESS] = 0;
            numbers[TEAM] = 4;
            numbers[TEAM_BEST] = 3;
            numbers[FINAL] = 8;
            numbers[FINAL_LAND] = 2;
        }

        boolean hasPart(int p) {
            return p >= 0 && p < parts;
        }

        void addPart(int worth, int group, int kind) {
            if (parts < MOST_PARTS) {
                worths[parts] = worth;
                groups[parts] = group;
                kinds[parts] = kind;
                parts++;
            }
        }

        void addLink(int first, int second, int worth) {
            if (links < MOST_LINKS) {
                linkFirsts[links] = first;
                linkSeconds[links] = second;
                linkWorths[links] = worth;
                links++;
            }
        }

        void addFault(int off, boolean each) {
            if (faults < MOST_FAULTS) {
                faultOffs[faults] = off;
                faultEach[faults] = each;
                faults++;
            }
        }

        int linksFrom(int p) {
            int sum = 0;
            for (int l = 0; l < links; l++) {
                if (linkFirsts[l] == p) {
                    sum++;
                }
            }
            return sum;
        }

        /** What it is worth that one part stands directly behind another; 0 without a link. */
        int linkWorth(int first, int second) {
            for (int l = 0; l < links; l++) {
                if (linkFirsts[l] == first && linkSeconds[l] == second) {
                    return linkWorths[l];
                }
            }
            return 0;
        }
    }

    /** Splits a text into tokens: a word, a number or a semicolon at a time. */
    private static final class Scanner {
        static final int END = 0;
        static final int WORD = 1;
        static final int NUMBER = 2;
        static final int SEMICOLON = 3;
        static final int NO_TOKEN = 4;

        static final int PART_WORD = 0;
        static final int LINK_WORD = 1;
        static final int GROUP_WORD = 2;
        static final int LIMIT_WORD = 3;
        static final int COUNTS_WORD = 4;
        static final int SHORT_WORD = 5;
        static final int FAULT_WORD = 6;
        static final int PANEL_WORD = 7;
        static final int TEAM_WORD = 8;
        static final int FINAL_WORD = 9;
        static final int IN_WORD = 10;
        static final int AS_WORD = 11;
        static final int NEEDS_WORD = 12;
        static final int WORTH_WORD = 13;
        static final int OF_WORD = 14;
        static final int LESS_WORD = 15;
        static final int EACH_WORD = 16;
        static final int SPAN_WORD = 17;
        static final int LAND_WORD = 18;
        private static final int WORDS = 19;
        private static final int BITS_OF_LETTER = 5;
        private static final int BEFORE_A = 'a' - 1;
        /** The words that are no names, in the order of their numbers above. */
        private static final String QUOTED =
            "part link group limit counts short fault panel team final in as needs worth of less each span land ";

        final long[] quoted = new long[WORDS];
        byte[] text;
        int length;
        int at;
        int tokens;
        // Of the latest token: its type, its first byte's place, and what it says.
        int type;
        int start;
        int number;
        /** A word as a number: ten letters of five bits have room in it, so that words can be compared by ==. */
        long word;
        /** Which of the quoted words the latest token is; NONE when it is none of them. */
        int quotedWord;

        Scanner() {
            int w = 0;
            for (int c = 0; c < QUOTED.length() && w < WORDS; c++) {
                if (QUOTED.charAt(c) == ' ') {
                    w++;
                } else {
                    quoted[w] = quoted[w] << BITS_OF_LETTER | (QUOTED.charAt(c) - BEFORE_A);
                }
            }
        }

        void open(byte[] bytes, int howMany) {
            text = bytes;
            length = Math.min(howMany, bytes.length);
            at = 0;
            tokens = 0;
        }

        void next() {
            while (at < length && (text[at] == 32 || text[at] == 10)) {
                at++;
            }
            start = at;
            quotedWord = NONE;
            if (at >= length) {
                type = END;
                return;
            }
            tokens++;
            if (text[at] >= 'a' && text[at] <= 'z') {
                nextWord();
                findQuoted();
            } else if (text[at] >= '0' && text[at] <= '9') {
                nextNumber();
            } else {
                type = text[at] == ';' ? SEMICOLON : NO_TOKEN;
                at++;
            }
        }

        private void nextWord() {
            word = 0;
            while (at < length && text[at] >= 'a' && text[at] <= 'z') {
                word = word << BITS_OF_LETTER | (text[at] - BEFORE_A);
                at++;
            }
            type = at - start <= MOST_LETTERS ? WORD : NO_TOKEN;
        }

        private void nextNumber() {
            number = 0;
            while (at < length && text[at] >= '0' && text[at] <= '9') {
                number = number * 10 + (text[at] - '0');
                at++;
            }
            type = at - start <= MOST_DIGITS ? NUMBER : NO_TOKEN;
        }

        private void findQuoted() {
            for (int w = 0; w < WORDS && type == WORD; w++) {
                if (quoted[w] == word) {
                    quotedWord = w;
                }
            }
        }

        boolean isName() {
            return type == WORD && quotedWord == NONE;
        }
    }

    /** Reads a text as a code, line by line, till its end or its first fault. */
    private static final class Reader {
        final Scanner scanner = new Scanner();
        final long[] partNames = new long[MOST_PARTS];
        final long[] faultNames = new long[MOST_FAULTS];
        Code told;
        int linesTold;
        int found;
        int faultKind;
        int faultPlace = NONE;

        /** Reads a text into a code that is cleared first: whether it is one; its fault is told in the fields. */
        boolean readCode(byte[] text, int length, Code into) {
            told = into;
            told.clear();
            linesTold = 0;
            faultKind = 0;
            faultPlace = NONE;
            scanner.open(text, length);
            for (int line = 0; line <= MOST_TOKENS; line++) {
                scanner.next();
                if (scanner.type == Scanner.END) {
                    return true;
                }
                if (!readLine(scanner.quotedWord)) {
                    return false;
                }
            }
            return stands(SYNTAX);
        }

        private boolean readLine(int first) {
            if (!stands(faultOfFirst(first))) {
                return false;
            }
            switch (first) {
                case Scanner.PART_WORD:
                    return readPart();
                case Scanner.LINK_WORD:
                    return readLink();
                case Scanner.GROUP_WORD:
                    return readGroup();
                case Scanner.LIMIT_WORD:
                    return readLimit();
                case Scanner.FAULT_WORD:
                    return readFault();
                default:
                    return readNumbers(first);
            }
        }

        private int faultOfFirst(int first) {
            switch (first) {
                case Scanner.PART_WORD:
                    return told.parts >= MOST_PARTS ? ROOM : 0;
                case Scanner.LINK_WORD:
                    return told.links >= MOST_LINKS ? ROOM : 0;
                case Scanner.FAULT_WORD:
                    return told.faults >= MOST_FAULTS ? ROOM : 0;
                case Scanner.GROUP_WORD:
                case Scanner.LIMIT_WORD:
                    return 0;
                case Scanner.COUNTS_WORD:
                case Scanner.SHORT_WORD:
                case Scanner.PANEL_WORD:
                case Scanner.TEAM_WORD:
                case Scanner.FINAL_WORD:
                    return faultOfOnce(first);
                default:
                    return SYNTAX;
            }
        }

        private int faultOfOnce(int first) {
            if ((linesTold >> first & 1) != 0) {
                return TWICE;
            }
            linesTold |= 1 << first;
            return 0;
        }

        private boolean readPart() {
            int p = told.parts;
            if (!newName(partNames, p) || !numberIn(1, 30)) {
                return false;
            }
            int worth = scanner.number;
            if (!theWord(Scanner.IN_WORD) || !numberIn(0, GROUPS - 1)) {
                return false;
            }
            int group = scanner.number;
            int kind = p;
            scanner.next();
            if (scanner.quotedWord == Scanner.AS_WORD) {
                if (!stands(0) || !nameOfPart()) {
                    return false;
                }
                kind = told.kinds[found];
                scanner.next();
            }
            if (!endsLine()) {
                return false;
            }
            told.addPart(worth, group, kind);
            return true;
        }

        private boolean readLink() {
            if (!nameOfPart()) {
                return false;
            }
            int first = found;
            scanner.next();
            if (!stands(faultOfSecond(first)) || !numberIn(1, 9)) {
                return false;
            }
            int second = found;
            int worth = scanner.number;
            scanner.next();
            if (!endsLine()) {
                return false;
            }
            told.addLink(first, second, worth);
            return true;
        }

        private int faultOfSecond(int first) {
            int fault = faultOfPartName();
            if (fault == 0 && told.linkWorth(first, found) != 0) {
                return TWICE;
            }
            return fault;
        }

        private boolean readGroup() {
            if (!groupOnce(told.needs, 0)) {
                return false;
            }
            int group = scanner.number;
            if (!theWord(Scanner.NEEDS_WORD) || !numberIn(1, 10)) {
                return false;
            }
            int needs = scanner.number;
            if (!theWord(Scanner.WORTH_WORD) || !numberIn(1, 20)) {
                return false;
            }
            told.needs[group] = needs;
            told.bonuses[group] = scanner.number;
            scanner.next();
            return endsLine();
        }

        private boolean readLimit() {
            if (!numberIn(0, 10)) {
                return false;
            }
            int limit = scanner.number;
            if (!theWord(Scanner.OF_WORD) || !groupOnce(told.limits, NONE)) {
                return false;
            }
            told.limits[scanner.number] = limit;
            scanner.next();
            return endsLine();
        }

        private boolean readFault() {
            if (!newName(faultNames, told.faults) || !numberIn(1, 50)) {
                return false;
            }
            int off = scanner.number;
            boolean each = false;
            scanner.next();
            if (scanner.quotedWord == Scanner.EACH_WORD) {
                if (!stands(0)) {
                    return false;
                }
                each = true;
                scanner.next();
            }
            if (!endsLine()) {
                return false;
            }
            told.addFault(off, each);
            return true;
        }

        /** The lines of numbers alone, each told once at most. */
        private boolean readNumbers(int first) {
            boolean stands;
            switch (first) {
                case Scanner.COUNTS_WORD:
                    stands = numberFor(COUNTS, 1, 10);
                    break;
                case Scanner.SHORT_WORD:
                    stands = numberFor(SHORT, 1, 10) && theWord(Scanner.LESS_WORD) && numberFor(LESS, 1, 99);
                    break;
                case Scanner.PANEL_WORD:
                    stands = numberFor(JUDGES, 1, MOST_JUDGES) && theWord(Scanner.SPAN_WORD) && numberFor(SPAN, 0, 50);
                    break;
                case Scanner.TEAM_WORD:
                    stands = numberFor(TEAM, 1, MOST_IN_TEAM) && theWord(Scanner.OF_WORD)
                        && numberFor(TEAM_BEST, 1, told.numbers[TEAM]);
                    break;
                default:
                    stands = numberFor(FINAL, 1, MOST_IN_FINAL) && theWord(Scanner.LAND_WORD)
                        && numberFor(FINAL_LAND, 1, 10);
                    break;
            }
            if (!stands) {
                return false;
            }
            scanner.next();
            return endsLine();
        }

        /** Judges the latest token: room for it comes behind its syntax, name and bounds, and ahead of all else. */
        private boolean stands(int fault) {
            int kind = fault;
            if (scanner.tokens > MOST_TOKENS && (kind == 0 || kind > ROOM)) {
                kind = ROOM;
            }
            if (kind == 0) {
                return true;
            }
            faultKind = kind;
            faultPlace = scanner.start;
            return false;
        }

        private boolean endsLine() {
            return stands(scanner.type == Scanner.SEMICOLON ? 0 : SYNTAX);
        }

        private boolean theWord(int word) {
            scanner.next();
            return stands(scanner.quotedWord == word ? 0 : SYNTAX);
        }

        private boolean numberIn(int least, int most) {
            scanner.next();
            return stands(faultOfNumber(least, most));
        }

        private int faultOfNumber(int least, int most) {
            if (scanner.type != Scanner.NUMBER) {
                return SYNTAX;
            }
            return scanner.number < least || scanner.number > most ? BOUNDS : 0;
        }

        private boolean numberFor(int place, int least, int most) {
            scanner.next();
            int fault = faultOfNumber(least, most);
            if (fault == 0) {
                told.numbers[place] = scanner.number;
            }
            return stands(fault);
        }

        /** A group of which these numbers tell nothing yet. */
        private boolean groupOnce(int[] numbers, int untold) {
            scanner.next();
            int fault = faultOfNumber(0, GROUPS - 1);
            if (fault == 0 && numbers[scanner.number] != untold) {
                fault = TWICE;
            }
            return stands(fault);
        }

        private boolean newName(long[] names, int known) {
            scanner.next();
            if (!scanner.isName()) {
                return stands(SYNTAX);
            }
            if (indexOf(names, known) != NONE) {
                return stands(NAME);
            }
            if (known >= 0 && known < names.length) {
                names[known] = scanner.word;
            }
            return stands(0);
        }

        private boolean nameOfPart() {
            scanner.next();
            return stands(faultOfPartName());
        }

        /** The fault of the latest token as a name of a part told ahead; without one the part is found. */
        private int faultOfPartName() {
            if (!scanner.isName()) {
                return SYNTAX;
            }
            int p = indexOf(partNames, told.parts);
            if (p == NONE) {
                return NAME;
            }
            found = p;
            return 0;
        }

        private int indexOf(long[] names, int known) {
            for (int n = 0; n < known && n < names.length; n++) {
                if (names[n] == scanner.word) {
                    return n;
                }
            }
            return NONE;
        }
    }

    /** One gymnast's routine at one apparatus; the row is used again in the next meeting. */
    private static final class Routine {
        final int[] entries = new int[MOST_ENTRIES];
        final int[] marks = new int[MOST_JUDGES];
        final int[] seen = new int[MOST_FAULTS];
        boolean begun;
        boolean isPosted;
        boolean stale;
        int length;
        int marked;
        int askedBits;
        int difficulty;
        int choice;
        int execution;
        int score;
        int postedAt;
        int inquiry;

        void start() {
            for (int j = 0; j < MOST_JUDGES; j++) {
                marks[j] = NONE;
            }
            for (int f = 0; f < MOST_FAULTS; f++) {
                seen[f] = 0;
            }
            begun = true;
            isPosted = false;
            stale = true;
            length = 0;
            marked = 0;
            askedBits = 0;
            inquiry = 0;
        }

        boolean isOpen() {
            return begun && !isPosted;
        }

        boolean isScored() {
            return begun && isPosted;
        }

        boolean hasEntry(int i) {
            return i >= 0 && i < length;
        }

        void add(int p) {
            if (length < MOST_ENTRIES) {
                entries[length] = p;
                length++;
                stale = true;
            }
        }

        /** How many entries stand ahead of the first torn one. */
        int counting() {
            for (int i = 0; i < length; i++) {
                if (entries[i] == NONE) {
                    return i;
                }
            }
            return length;
        }

        /** The entries, as bits, ahead of which one of their kind counts. */
        int repeats(Code code) {
            int counting = counting();
            int kindsSeen = 0;
            int bits = 0;
            for (int i = 0; i < counting; i++) {
                int p = entries[i];
                int kind = code.hasPart(p) ? 1 << code.kinds[p] : 0;
                if ((kindsSeen & kind) != 0) {
                    bits |= 1 << i;
                }
                kindsSeen |= kind;
            }
            return bits;
        }

        boolean takesMarkOf(int judge) {
            return marks[judge] == NONE || (askedBits >> judge & 1) != 0;
        }

        /** A first mark may be the last one wanting: then strays are asked, once. A second one stands as it is. */
        void putMark(int judge, int mark, int judges, int span) {
            boolean first = marks[judge] == NONE;
            marks[judge] = mark;
            askedBits &= ~(1 << judge);
            if (first) {
                marked++;
                if (marked == judges) {
                    askStrays(judges, span);
                }
            }
        }

        private void askStrays(int judges, int span) {
            int middle = middleMark(judges);
            for (int j = 0; j < judges; j++) {
                if (Math.abs(marks[j] - middle) > span) {
                    askedBits |= 1 << j;
                }
            }
        }

        /** The mark that stands in the middle, the lower one of two, if all stand in order. */
        private int middleMark(int judges) {
            int middle = (judges - 1) / 2;
            for (int j = 0; j < judges; j++) {
                int less = 0;
                int same = 0;
                for (int k = 0; k < judges; k++) {
                    less += marks[k] < marks[j] ? 1 : 0;
                    same += marks[k] == marks[j] ? 1 : 0;
                }
                if (less <= middle && middle < less + same) {
                    return marks[j];
                }
            }
            return 0;
        }

        int takenOff(Code code) {
            int sum = 0;
            for (int f = 0; f < code.faults; f++) {
                int times = Integer.bitCount(seen[f]);
                if (!code.faultEach[f]) {
                    times = Math.min(times, 1);
                }
                sum += code.faultOffs[f] * times;
            }
            return sum;
        }

        void takeChoice(int worth, int bits) {
            difficulty = worth;
            choice = bits;
            stale = false;
        }

        void putPosting(int time, Code code) {
            isPosted = true;
            postedAt = time;
            execution = meanOff(code.numbers[JUDGES]);
            settleScore(code);
        }

        /** E: of a panel of four or more one highest and one lowest are left out. */
        private int meanOff(int judges) {
            int sum = 0;
            int highest = 0;
            int lowest = MOST_OFF;
            for (int j = 0; j < judges; j++) {
                sum += marks[j];
                highest = Math.max(highest, marks[j]);
                lowest = Math.min(lowest, marks[j]);
            }
            if (judges >= 4) {
                return (sum - highest - lowest) * 100 / (judges - 2);
            }
            return judges > 0 ? sum * 100 / judges : 0;
        }

        void settleScore(Code code) {
            score = Math.max(0, 100 * difficulty + 10000 - execution - 100 * takenOff(code));
        }
    }

    /**
     * Looks for the choice of the greatest worth, entry by entry. A state is how many entries of each group are chosen
     * so far; of each state only the best choice is kept, apart for those with and without the latest entry, since a
     * link asks only for that. Worth and set are one number, UNIT times the worth less the set, so that the greatest
     * number is the greatest worth with the least set.
     */
    private static final class Chooser {
        private static final int UNIT = 1 << MOST_ENTRIES;
        private static final int NEVER = -(1 << 30);
        /** 16 entries in 5 groups, as even as can be: 4 times 3 and one 4, so 4 * 4 * 4 * 4 * 5 states. */
        private static final int MOST_STATES = 1280;

        final int[] without = new int[MOST_STATES];
        final int[] with = new int[MOST_STATES];
        final int[] sizes = new int[GROUPS];
        final int[] steps = new int[GROUPS];
        int states;
        /** D: the worth of the choice found, 0 if that is below 0. */
        int worth;
        int choice;

        void choose(Code code, Routine row) {
            int counting = row.counting();
            int repeats = row.repeats(code);
            layOut(code, row, counting, repeats);
            for (int i = 0; i < counting; i++) {
                if ((repeats >> i & 1) == 0) {
                    offer(code, row, i);
                } else {
                    passOver();
                }
            }
            settle(code);
        }

        private void layOut(Code code, Routine row, int counting, int repeats) {
            for (int g = 0; g < GROUPS; g++) {
                sizes[g] = 1;
            }
            for (int i = 0; i < counting; i++) {
                if ((repeats >> i & 1) == 0 && code.hasPart(row.entries[i])) {
                    int g = code.groups[row.entries[i]];
                    if (code.limits[g] == NONE || sizes[g] <= code.limits[g]) {
                        sizes[g]++;
                    }
                }
            }
            states = 1;
            for (int g = 0; g < GROUPS; g++) {
                steps[g] = states;
                states *= sizes[g];
            }
            states = Math.min(states, MOST_STATES);
            for (int s = 0; s < states; s++) {
                without[s] = NEVER;
                with[s] = NEVER;
            }
            without[0] = 0;
        }

        /** States from the greatest down, so that a lesser one is still that of ahead of this entry. */
        private void offer(Code code, Routine row, int i) {
            int p = row.entries[i];
            if (!code.hasPart(p)) {
                return;
            }
            int step = Math.max(1, steps[code.groups[p]]);
            int size = Math.max(1, sizes[code.groups[p]]);
            int alone = code.worths[p] * UNIT - (1 << i);
            int linked = alone;
            if (i > 0) {
                linked += code.linkWorth(row.entries[i - 1], p) * UNIT;
            }
            for (int s = states - 1; s >= 0; s--) {
                int taken = NEVER;
                if (s >= step && s / step % size > 0) {
                    taken = Math.max(without[s - step] + alone, with[s - step] + linked);
                }
                without[s] = Math.max(without[s], with[s]);
                with[s] = taken;
            }
        }

        /** An entry that can't be chosen parts the one ahead of it from the one behind. */
        private void passOver() {
            for (int s = 0; s < states; s++) {
                without[s] = Math.max(without[s], with[s]);
                with[s] = NEVER;
            }
        }

        private void settle(Code code) {
            int best = NEVER;
            for (int s = 0; s < states; s++) {
                int value = Math.max(without[s], with[s]);
                if (value > NEVER / 2) {
                    best = Math.max(best, value + extra(code, s));
                }
            }
            int found = Math.floorDiv(best + UNIT - 1, UNIT);
            choice = found * UNIT - best;
            worth = Math.max(0, found);
        }

        /** What needs met and a short choice put to its worth, in units; NEVER when more are chosen than count. */
        private int extra(Code code, int state) {
            int chosen = 0;
            int sum = 0;
            int rest = state;
            for (int g = 0; g < GROUPS; g++) {
                int size = Math.max(1, sizes[g]);
                int ofGroup = rest % size;
                rest /= size;
                chosen += ofGroup;
                if (code.needs[g] > 0 && ofGroup >= code.needs[g]) {
                    sum += code.bonuses[g];
                }
            }
            if (chosen > code.numbers[COUNTS]) {
                return NEVER;
            }
            if (chosen < code.numbers[SHORT]) {
                sum -= code.numbers[LESS];
            }
            return sum * UNIT;
        }
    }

    /** A list in order, and the final called from it. */
    private static final class Ranking {
        final int[] order = new int[MOST_GYMNASTS];
        final int[] scores = new int[MOST_GYMNASTS];
        final int[] executions = new int[MOST_GYMNASTS];
        final int[] difficulties = new int[MOST_GYMNASTS];
        final int[] finalOrder = new int[MOST_IN_FINAL];
        final int[] ofLand = new int[LANDS];
        int length;
        int finalists;

        void clear() {
            length = 0;
            finalists = 0;
        }

        /** Gymnasts come by their numbers, so that of two alike the lesser number stays ahead. */
        void insert(int g, int score, int execution, int difficulty) {
            if (g < 0 || g >= MOST_GYMNASTS || length >= MOST_GYMNASTS) {
                return;
            }
            scores[g] = score;
            executions[g] = execution;
            difficulties[g] = difficulty;
            int at = length;
            while (at > 0 && isBetter(g, order[at - 1])) {
                order[at] = order[at - 1];
                at--;
            }
            order[at] = g;
            length++;
        }

        private boolean isBetter(int g, int than) {
            if (scores[g] != scores[than]) {
                return scores[g] > scores[than];
            }
            if (executions[g] != executions[than]) {
                return executions[g] < executions[than];
            }
            return difficulties[g] > difficulties[than];
        }

        /** How many stand ahead of place i with another score. */
        int aheadOf(int i) {
            int sum = 0;
            for (int k = 0; k < i; k++) {
                if (scores[order[k]] != scores[order[i]]) {
                    sum++;
                }
            }
            return sum;
        }

        void callFinal(int most, int mostOfLand, int[] landOf) {
            for (int l = 0; l < LANDS; l++) {
                ofLand[l] = 0;
            }
            finalists = 0;
            int room = Math.min(most, MOST_IN_FINAL);
            for (int k = 0; k < length && finalists < room; k++) {
                int g = order[k];
                if (ofLand[landOf[g]] < mostOfLand) {
                    ofLand[landOf[g]]++;
                    finalOrder[finalists] = g;
                    finalists++;
                }
            }
        }

        boolean isFinalist(int g) {
            for (int k = 0; k < finalists; k++) {
                if (finalOrder[k] == g) {
                    return true;
                }
            }
            return false;
        }
    }
}
