import java.util.ArrayList;
import java.util.Arrays;
import java.util.Comparator;
import java.util.HashMap;
import java.util.HashSet;
import java.util.List;
import java.util.Map;
import java.util.Random;
import java.util.Set;
import java.util.TreeMap;
import java.util.stream.Collectors;

/** Runs of calls by chance, always the same ones, against a slow model written apart from the class. */
public final class ModelTest {
    /** A fault of a text. */
    private static final class Fault extends Exception {
        private static final long serialVersionUID = 1;
        final int kind;
        final int place;

        Fault(int kind, int place) {
            this.kind = kind;
            this.place = place;
        }
    }

    private record Token(String text, int place) {
        boolean isWord() {
            return text.matches("[a-z]{1,10}");
        }

        boolean isNumber() {
            return text.matches("[0-9]{1,3}");
        }
    }

    private record Part(String name, int worth, int group, int kind) {
    }

    private record Slip(String name, int off, boolean each) {
    }

    /** The code by a table of its lines: # is a number and its bounds, other marks are told in read(). */
    private static final class Text {
        static final Map<String, String> LINES = new HashMap<>();
        static final Set<String> QUOTED = new HashSet<>();

        static {
            LINES.put("part", "+p #1,30 in #0,4 ?as !p ;");
            LINES.put("link", "!p =p #1,9 ;");
            LINES.put("group", "#0,4,once needs #1,10 worth #1,20 ;");
            LINES.put("limit", "#0,10 of #0,4,once ;");
            LINES.put("counts", "#1,10 ;");
            LINES.put("short", "#1,10 less #1,99 ;");
            LINES.put("fault", "+f #1,50 ?each ;");
            LINES.put("panel", "#1,6 span #0,50 ;");
            LINES.put("team", "#1,6 of #1,0 ;");
            LINES.put("final", "#1,10 land #1,10 ;");
            for (String line : LINES.values()) {
                for (String word : line.split(" ")) {
                    if (word.matches("\\??[a-z]+")) {
                        QUOTED.add(word.replace("?", ""));
                    }
                }
            }
            QUOTED.addAll(LINES.keySet());
        }

        final List<Part> parts = new ArrayList<>();
        final Map<List<Integer>, Integer> links = new HashMap<>();
        final List<Slip> slips = new ArrayList<>();
        final Map<Integer, int[]> needs = new TreeMap<>();
        final Map<Integer, Integer> limits = new TreeMap<>();
        final Map<String, int[]> numbers = new HashMap<>();
        final Set<String> told = new HashSet<>();
        private List<Token> tokens;
        private int next;

        Text() {
            numbers.put("counts", new int[] {8});
            numbers.put("short", new int[] {0, 0});
            numbers.put("panel", new int[] {4, 3});
            numbers.put("team", new int[] {4, 3});
            numbers.put("final", new int[] {8, 2});
        }

        static List<Token> split(String text) {
            List<Token> tokens = new ArrayList<>();
            int at = 0;
            while (at < text.length()) {
                int to = at + 1;
                String like = text.substring(at, to);
                for (String signs : new String[] {"[a-z]+", "[0-9]+"}) {
                    while (like.matches(signs) && to < text.length() && text.substring(to, to + 1).matches(signs)) {
                        to++;
                    }
                }
                if (!like.equals(" ") && !like.equals("\n")) {
                    tokens.add(new Token(text.substring(at, to), at));
                }
                at = to;
            }
            tokens.add(new Token("", text.length()));
            return tokens;
        }

        static Text of(String text) throws Fault {
            Text code = new Text();
            code.tokens = split(text);
            while (!code.tokens.get(code.next).text().isEmpty()) {
                code.line();
            }
            return code;
        }

        private void judge(boolean syntax, boolean name, boolean range, boolean room, boolean twice) throws Fault {
            boolean[] kinds = {syntax, name, range, room || next >= 700 && !tokens.get(next).text().isEmpty(), twice};
            for (int k = 0; k < 5; k++) {
                if (kinds[k]) {
                    throw new Fault(k + 1, tokens.get(next).place());
                }
            }
            next++;
        }

        private int partNamed(String name) {
            for (int p = 0; p < parts.size(); p++) {
                if (parts.get(p).name().equals(name)) {
                    return p;
                }
            }
            return -1;
        }

        private boolean isSlip(String name) {
            return slips.stream().anyMatch(s -> s.name().equals(name));
        }

        private void line() throws Fault {
            String first = tokens.get(next).text();
            boolean room = first.equals("part") && parts.size() == 30 || first.equals("link") && links.size() == 20
                || first.equals("fault") && slips.size() == 10;
            boolean twice = numbers.containsKey(first) && told.contains(first);
            judge(!LINES.containsKey(first), false, false, room, twice);
            told.add(first);
            List<String> names = new ArrayList<>();
            List<Integer> values = new ArrayList<>();
            Set<String> options = new HashSet<>();
            for (String slot : LINES.get(first).split(" ")) {
                if (slot.startsWith("?")) {
                    if (tokens.get(next).text().equals(slot.substring(1))) {
                        judge(false, false, false, false, false);
                        options.add(slot);
                    } else {
                        options.add("skip");
                    }
                } else if (!(options.contains("skip") && first.equals("part") && slot.equals("!p"))) {
                    slot(first, slot, names, values);
                }
            }
            keep(first, names, values, options);
        }

        private void slot(String first, String slot, List<String> names, List<Integer> values) throws Fault {
            Token token = tokens.get(next);
            String text = token.text();
            char like = slot.charAt(0);
            if (like == '#') {
                String[] bounds = slot.substring(1).split(",");
                int value = token.isNumber() ? Integer.parseInt(text) : -1;
                int most = bounds[1].equals("0") && first.equals("team") ? values.get(0) : Integer.parseInt(bounds[1]);
                boolean twice = bounds.length > 2 && (first.equals("group") ? needs : limits).containsKey(value);
                judge(!token.isNumber(), false, value < Integer.parseInt(bounds[0]) || value > most, false, twice);
                values.add(value);
            } else if (like == '+' || like == '!' || like == '=') {
                boolean none = !token.isWord() || QUOTED.contains(text);
                boolean there = slot.equals("+f") ? isSlip(text) : partNamed(text) >= 0;
                boolean twice = like == '=' && links.containsKey(List.of(partNamed(names.get(0)), partNamed(text)));
                judge(none, there == (like == '+'), false, false, twice);
                names.add(text);
            } else {
                judge(!text.equals(slot), false, false, false, false);
            }
        }

        private void keep(String first, List<String> names, List<Integer> values, Set<String> options) {
            if (first.equals("part")) {
                int kind = names.size() > 1 ? parts.get(partNamed(names.get(1))).kind() : parts.size();
                parts.add(new Part(names.get(0), values.get(0), values.get(1), kind));
            } else if (first.equals("link")) {
                links.put(List.of(partNamed(names.get(0)), partNamed(names.get(1))), values.get(0));
            } else if (first.equals("group")) {
                needs.put(values.get(0), new int[] {values.get(1), values.get(2)});
            } else if (first.equals("limit")) {
                limits.put(values.get(1), values.get(0));
            } else if (first.equals("fault")) {
                slips.add(new Slip(names.get(0), values.get(0), options.contains("?each")));
            } else {
                numbers.put(first, values.stream().mapToInt(v -> v).toArray());
            }
        }
    }

    private static final class Act {
        final List<Integer> entries = new ArrayList<>();
        final Map<Integer, Integer> marks = new HashMap<>();
        final Set<Integer> asked = new HashSet<>();
        final Set<List<Integer>> seen = new HashSet<>();
        boolean posted;
        int postedAt;
        int inquiry;
    }

    /** The desk in its plainest form: all is worked out anew at each call. */
    private static final class Model {
        private final List<Integer> tape = new ArrayList<>();
        private Text code = new Text();
        private Fault fault;
        private List<Integer> lands = new ArrayList<>();
        private Map<List<Integer>, Act> acts = new HashMap<>();
        private Set<List<Integer>> withdrawn = new HashSet<>();
        private int[] paid = new int[10];
        private int clock;

        int feed(int... ints) {
            if (tape.size() > 2980) {
                return -3;
            }
            for (int four : ints) {
                for (byte b : java.nio.ByteBuffer.allocate(4).putInt(four).array()) {
                    tape.add(b & 255);
                }
            }
            return tape.size();
        }

        int end(int n) {
            if (n < 0 || n > tape.size()) {
                return -1;
            }
            tape.subList(n, tape.size()).clear();
            return n;
        }

        int code() {
            StringBuilder text = new StringBuilder();
            for (int b : tape) {
                text.append((char) b);
            }
            tape.clear();
            try {
                code = Text.of(text.toString());
            } catch (Fault found) {
                fault = found;
                return -1;
            }
            fault = null;
            lands = new ArrayList<>();
            acts = new HashMap<>();
            withdrawn = new HashSet<>();
            paid = new int[10];
            clock = 0;
            return code.parts.size();
        }

        int fault(int what) {
            if (what == 0) {
                return fault == null ? 0 : fault.kind;
            }
            return what == 1 && fault != null ? fault.place : -1;
        }

        int part(int p, int what) {
            if (p < 0 || p >= code.parts.size() || what < 0 || what > 3) {
                return -1;
            }
            Part part = code.parts.get(p);
            int links = (int) code.links.keySet().stream().filter(l -> l.get(0) == p).count();
            return new int[] {part.worth(), part.group(), part.kind(), links}[what];
        }

        int enter(int land) {
            if (land < 0 || land > 9) {
                return -2;
            }
            if (lands.size() == 40) {
                return -3;
            }
            lands.add(land);
            return lands.size() - 1;
        }

        private boolean known(int g, int a) {
            return g >= 0 && g < lands.size() && a >= 0 && a < 4;
        }

        int begin(int g, int a) {
            if (!known(g, a)) {
                return -2;
            }
            if (acts.containsKey(List.of(g, a))) {
                return -1;
            }
            int there = 0;
            for (List<Integer> who : acts.keySet()) {
                if (who.get(1) == a && lands.get(who.get(0)).equals(lands.get(g))) {
                    there++;
                }
            }
            if (there >= code.numbers.get("team")[0]) {
                return -3;
            }
            acts.put(List.of(g, a), new Act());
            return there + 1;
        }

        int entry(int g, int a, int p) {
            if (!known(g, a) || p < -1 || p >= code.parts.size()) {
                return -2;
            }
            Act act = acts.get(List.of(g, a));
            if (act == null || act.posted) {
                return -1;
            }
            if (act.entries.size() == 16) {
                return -3;
            }
            act.entries.add(p);
            return act.entries.size();
        }

        private int judges() {
            return code.numbers.get("panel")[0];
        }

        int mark(int g, int a, int judge, int mark) {
            if (!known(g, a) || judge < 0 || judge >= judges() || mark < 0 || mark > 100) {
                return -2;
            }
            Act act = acts.get(List.of(g, a));
            if (act == null || act.posted || act.marks.containsKey(judge) && !act.asked.contains(judge)) {
                return -1;
            }
            if (act.marks.containsKey(judge)) {
                act.asked.remove(judge);
                act.marks.put(judge, mark);
            } else {
                act.marks.put(judge, mark);
                if (act.marks.size() == judges()) {
                    List<Integer> order = act.marks.values().stream().sorted().collect(Collectors.toList());
                    int middle = order.get((judges() - 1) / 2);
                    for (int j : act.marks.keySet()) {
                        if (Math.abs(act.marks.get(j) - middle) > code.numbers.get("panel")[1]) {
                            act.asked.add(j);
                        }
                    }
                }
            }
            return act.marks.size();
        }

        int asked(int g, int a) {
            if (!known(g, a)) {
                return -2;
            }
            Act act = acts.get(List.of(g, a));
            return act == null ? -1 : act.asked.stream().mapToInt(j -> 1 << j).sum();
        }

        int see(int g, int a, int judge, int f, int i) {
            if (!known(g, a) || judge < 0 || judge >= judges() || f < 0 || f >= code.slips.size()) {
                return -2;
            }
            Act act = acts.get(List.of(g, a));
            if (act == null || act.posted || i < 0 || i >= act.entries.size()) {
                return -1;
            }
            act.seen.add(List.of(f, code.slips.get(f).each() ? i : -1));
            return off(act);
        }

        private int off(Act act) {
            return act.seen.stream().mapToInt(s -> code.slips.get(s.get(0)).off()).sum();
        }

        int post(int g, int a, int time) {
            if (!known(g, a) || time < clock) {
                return -2;
            }
            Act act = acts.get(List.of(g, a));
            if (act == null || act.posted || act.marks.size() < judges() || !act.asked.isEmpty()) {
                return -1;
            }
            act.posted = true;
            act.postedAt = time;
            clock = time;
            return score(act);
        }

        private int score(Act act) {
            return Math.max(0, 100 * worth(act.entries)[0] + 10000 - execution(act) - 100 * off(act));
        }

        private int execution(Act act) {
            List<Integer> order = act.marks.values().stream().sorted().collect(Collectors.toList());
            if (order.size() >= 4) {
                order = order.subList(1, order.size() - 1);
            }
            return order.stream().mapToInt(m -> m).sum() * 100 / order.size();
        }

        private List<Integer> counting(List<Integer> entries) {
            int torn = entries.indexOf(-1);
            return torn < 0 ? entries : entries.subList(0, torn);
        }

        private int repeats(List<Integer> entries) {
            int bits = 0;
            List<Integer> kinds = new ArrayList<>();
            for (int p : counting(entries)) {
                int kind = code.parts.get(p).kind();
                bits |= kinds.contains(kind) ? 1 << kinds.size() : 0;
                kinds.add(kind);
            }
            return bits;
        }

        /** D and the choice, all choices tried from the least set up. */
        private int[] worth(List<Integer> entries) {
            List<Integer> counting = counting(entries);
            int repeats = repeats(entries);
            int best = Integer.MIN_VALUE;
            int choice = 0;
            for (int set = 0; set < 1 << counting.size(); set++) {
                if ((set & repeats) == 0 && Integer.bitCount(set) <= code.numbers.get("counts")[0]) {
                    Integer worth = worthOf(counting, set);
                    if (worth != null && worth > best) {
                        best = worth;
                        choice = set;
                    }
                }
            }
            return new int[] {Math.max(0, best), choice};
        }

        private Integer worthOf(List<Integer> entries, int set) {
            int[] ofGroup = new int[5];
            int sum = 0;
            for (int i = 0; i < entries.size(); i++) {
                if ((set >> i & 1) != 0) {
                    Part part = code.parts.get(entries.get(i));
                    sum += part.worth();
                    ofGroup[part.group()]++;
                    if (i > 0 && (set >> i - 1 & 1) != 0) {
                        sum += code.links.getOrDefault(List.of(entries.get(i - 1), entries.get(i)), 0);
                    }
                }
            }
            for (int g = 0; g < 5; g++) {
                if (ofGroup[g] > code.limits.getOrDefault(g, 99)) {
                    return null;
                }
                int[] needs = code.needs.get(g);
                sum += needs != null && ofGroup[g] >= needs[0] ? needs[1] : 0;
            }
            int[] less = code.numbers.get("short");
            return Integer.bitCount(set) < less[0] ? sum - less[1] : sum;
        }

        int routine(int g, int a, int what) {
            Act act = known(g, a) ? acts.get(List.of(g, a)) : null;
            if (act == null) {
                return -9;
            }
            if (what >= 20 && what - 20 < act.entries.size()) {
                return act.entries.get(what - 20);
            }
            switch (what) {
                case 0: return act.entries.size();
                case 1: return worth(act.entries)[0];
                case 2: return worth(act.entries)[1];
                case 3: return off(act);
                case 4: return act.posted ? 1 : 0;
                case 5: return act.inquiry;
                case 6: return act.marks.size();
                case 7: return Integer.bitCount(repeats(act.entries));
                case 8: return act.posted ? score(act) : -9;
                case 9: return act.posted ? execution(act) : -9;
                case 10: return act.posted ? act.postedAt : -9;
                default: return -9;
            }
        }

        int inquire(int g, int a, int time) {
            if (!known(g, a) || time < clock) {
                return -2;
            }
            Act act = acts.get(List.of(g, a));
            if (act == null || !act.posted || (long) time > act.postedAt + 5L || act.inquiry != 0) {
                return -1;
            }
            act.inquiry = 1;
            clock = time;
            return ++paid[lands.get(g)];
        }

        int answer(int g, int a, int i, int p) {
            if (!known(g, a) || p < 0 || p >= code.parts.size()) {
                return -2;
            }
            Act act = acts.get(List.of(g, a));
            if (act == null || act.inquiry != 1 || i < 0 || i >= act.entries.size() || act.entries.get(i) == -1) {
                return -1;
            }
            List<Integer> held = new ArrayList<>(act.entries);
            held.set(i, p);
            if (worth(held)[0] <= worth(act.entries)[0]) {
                act.inquiry = 3;
                return 0;
            }
            act.entries.set(i, p);
            act.inquiry = 2;
            paid[lands.get(g)]--;
            return score(act);
        }

        int withdraw(int g, int a) {
            if (g < 0 || g >= lands.size() || a < 0 || a > 4) {
                return -2;
            }
            return withdrawn.add(List.of(g, a)) ? 1 : -1;
        }

        /** The list's gymnasts in order: each with score, E, D. */
        private List<int[]> order(int a) {
            List<int[]> order = new ArrayList<>();
            for (int g = 0; g < lands.size(); g++) {
                int[] row = {g, 0, 0, 0};
                boolean all = !withdrawn.contains(List.of(g, a));
                for (int at = 0; at < 4; at++) {
                    if (a == 4 || a == at) {
                        Act act = acts.get(List.of(g, at));
                        all = all && act != null && act.posted;
                        if (all) {
                            row[1] += score(act);
                            row[2] += execution(act);
                            row[3] += worth(act.entries)[0];
                        }
                    }
                }
                if (all) {
                    order.add(row);
                }
            }
            order.sort(Comparator.<int[]>comparingInt(r -> -r[1]).thenComparingInt(r -> r[2])
                .thenComparingInt(r -> -r[3]).thenComparingInt(r -> r[0]));
            return order;
        }

        private List<Integer> called(List<int[]> order) {
            List<Integer> called = new ArrayList<>();
            int[] told = code.numbers.get("final");
            for (int[] row : order) {
                long same = called.stream().filter(g -> lands.get(g).equals(lands.get(row[0]))).count();
                if (called.size() < told[0] && same < told[1]) {
                    called.add(row[0]);
                }
            }
            return called;
        }

        int list(int a) {
            return a < 0 || a > 4 ? -2 : order(a).size();
        }

        int place(int a, int i, int what) {
            if (a < 0 || a > 4 || what < 0 || what > 3) {
                return -1;
            }
            List<int[]> order = order(a);
            if (i < 0 || i >= order.size()) {
                return -1;
            }
            int[] row = order.get(i);
            int ahead = (int) order.subList(0, i).stream().filter(r -> r[1] != row[1]).count();
            return new int[] {row[0], row[1], 1 + ahead, called(order).contains(row[0]) ? 1 : 0}[what];
        }

        int finalist(int a, int i) {
            List<Integer> called = a < 0 || a > 4 ? List.of() : called(order(a));
            return i < 0 || i >= called.size() ? -1 : called.get(i);
        }

        int land(int land, int a) {
            if (land < 0 || land > 9 || a < 0 || a > 4) {
                return -2;
            }
            if (a == 4) {
                return land(land, 0) + land(land, 1) + land(land, 2) + land(land, 3);
            }
            return acts.entrySet().stream()
                .filter(e -> e.getKey().get(1) == a && lands.get(e.getKey().get(0)) == land && e.getValue().posted)
                .map(e -> -score(e.getValue())).sorted().limit(code.numbers.get("team")[1]).mapToInt(s -> -s).sum();
        }

        int standing(int land) {
            int standing = 1;
            for (int l = 0; l < 10; l++) {
                standing += land(l, 4) > land(land, 4) ? 1 : 0;
            }
            return land < 0 || land > 9 ? -2 : standing;
        }

        int count(int what) {
            int[] singles = {code.parts.size(), code.links.size(), code.slips.size(), judges(),
                code.numbers.get("panel")[1], code.numbers.get("counts")[0], code.numbers.get("short")[0],
                code.numbers.get("short")[1], code.numbers.get("team")[0], code.numbers.get("team")[1],
                code.numbers.get("final")[0], code.numbers.get("final")[1], lands.size(), tape.size(), clock,
                (int) acts.values().stream().filter(act -> act.posted).count()};
            if (what >= 0 && what < singles.length) {
                return singles[what];
            }
            int g = Math.floorMod(what, 10);
            if (what < 20 || what > 44 || g > 4) {
                return -1;
            }
            return what < 40 ? code.needs.getOrDefault(g, new int[2])[what / 10 - 2] : code.limits.getOrDefault(g, -1);
        }

        int fees(int land) {
            return land < 0 || land > 9 ? -2 : paid[land];
        }
    }

    private final Random chance;
    private final GymDesk desk = new GymDesk();
    private final Model model = new Model();
    private final StringBuilder told = new StringBuilder();
    private int calls;
    private int wrong;
    /** Below 0 while a text is made that may have faults. */
    private int sound;

    private ModelTest(long seed) {
        chance = new Random(seed);
    }

    private int call(String name, int... x) {
        int got;
        int want;
        switch (name) {
            case "feed": got = desk.feed(x[0], x[1], x[2], x[3], x[4]); want = model.feed(x); break;
            case "end": got = desk.end(x[0]); want = model.end(x[0]); break;
            case "code": got = desk.code(); want = model.code(); break;
            case "fault": got = desk.fault(x[0]); want = model.fault(x[0]); break;
            case "part": got = desk.part(x[0], x[1]); want = model.part(x[0], x[1]); break;
            case "enter": got = desk.enter(x[0]); want = model.enter(x[0]); break;
            case "begin": got = desk.begin(x[0], x[1]); want = model.begin(x[0], x[1]); break;
            case "entry": got = desk.entry(x[0], x[1], x[2]); want = model.entry(x[0], x[1], x[2]); break;
            case "mark": got = desk.mark(x[0], x[1], x[2], x[3]); want = model.mark(x[0], x[1], x[2], x[3]); break;
            case "asked": got = desk.asked(x[0], x[1]); want = model.asked(x[0], x[1]); break;
            case "see":
                got = desk.see(x[0], x[1], x[2], x[3], x[4]);
                want = model.see(x[0], x[1], x[2], x[3], x[4]);
                break;
            case "post": got = desk.post(x[0], x[1], x[2]); want = model.post(x[0], x[1], x[2]); break;
            case "routine": got = desk.routine(x[0], x[1], x[2]); want = model.routine(x[0], x[1], x[2]); break;
            case "inquire": got = desk.inquire(x[0], x[1], x[2]); want = model.inquire(x[0], x[1], x[2]); break;
            case "answer":
                got = desk.answer(x[0], x[1], x[2], x[3]);
                want = model.answer(x[0], x[1], x[2], x[3]);
                break;
            case "withdraw": got = desk.withdraw(x[0], x[1]); want = model.withdraw(x[0], x[1]); break;
            case "list": got = desk.list(x[0]); want = model.list(x[0]); break;
            case "place": got = desk.place(x[0], x[1], x[2]); want = model.place(x[0], x[1], x[2]); break;
            case "finalist": got = desk.finalist(x[0], x[1]); want = model.finalist(x[0], x[1]); break;
            case "land": got = desk.land(x[0], x[1]); want = model.land(x[0], x[1]); break;
            case "standing": got = desk.standing(x[0]); want = model.standing(x[0]); break;
            case "count": got = desk.count(x[0]); want = model.count(x[0]); break;
            case "fees": got = desk.fees(x[0]); want = model.fees(x[0]); break;
            default: throw new IllegalArgumentException(name);
        }
        calls++;
        told.append(name).append(Arrays.toString(x)).append(" = ").append(want).append('\n');
        if (got != want) {
            wrong++;
            System.out.println("after\n" + told + "the class answered " + got);
        }
        return want;
    }

    private int below(int most) {
        return chance.nextInt(most);
    }

    private boolean once(int in) {
        return below(in) == 0;
    }

    private boolean slips(int in) {
        return sound < 0 && once(in);
    }

    /** Mostly a number from 0 to below most, now and then one beside it or any. */
    private int arg(int most) {
        if (once(40)) {
            return once(4) ? chance.nextInt() : new int[] {-1, most, Integer.MIN_VALUE, Integer.MAX_VALUE}[below(4)];
        }
        return most > 0 ? below(most) : 0;
    }

    private String number(int least, int most) {
        return slips(60) ? String.valueOf(below(120)) : String.valueOf(least + below(most - least + 1));
    }

    private String line(List<String> parts, List<String> slips, int fewer) {
        String old = parts.isEmpty() || slips(60) ? "zz" : parts.get(below(parts.size()));
        String other = parts.isEmpty() || slips(60) ? "z" : parts.get(below(parts.size()));
        String fresh = slips(90) ? old : "" + (char) ('a' + below(25)) + (char) ('a' + below(25));
        switch (below(fewer)) {
            case 0:
                return "group " + number(0, 4) + " needs " + number(1, 4) + " worth " + number(1, 20);
            case 1:
                return "limit " + number(0, 4) + " of " + number(0, 4);
            case 2:
                return "counts " + number(1, 10);
            case 3:
                return "short " + number(1, 10) + " less " + number(1, 99);
            case 4:
                return "panel " + number(1, 6) + " span " + number(0, 50);
            case 5:
                int of = 1 + below(6);
                return "team " + of + " of " + number(1, of);
            case 6:
                return "final " + number(1, 10) + " land " + number(1, 4);
            case 7:
            case 8:
                slips.add(fresh);
                return "fault " + fresh + " " + number(1, 50) + (once(2) ? " each" : "");
            case 9:
            case 10:
            case 11:
            case 12:
                return "link " + old + " " + other + " " + number(1, 9);
            default:
                String like = !parts.isEmpty() && once(4) ? " as " + old : "";
                parts.add(fresh);
                return "part " + fresh + " " + number(1, 30) + " in " + number(0, 4) + like;
        }
    }

    private static boolean roomFor(String line, Set<String> told) {
        String first = line.substring(0, line.indexOf(' '));
        int most = first.equals("part") ? 30 : first.equals("link") ? 20 : first.equals("fault") ? 10 : 99;
        return told.stream().filter(t -> t.startsWith(first + " ")).count() < most;
    }

    private String text() {
        sound = once(2) ? -1 : 1;
        List<String> parts = new ArrayList<>();
        List<String> slips = new ArrayList<>();
        StringBuilder text = new StringBuilder();
        int lines = 5 + below(once(9) ? 70 : 20);
        Set<String> once = new HashSet<>();
        for (int n = 0; n < lines; n++) {
            String line = line(parts, slips, 24);
            String first = line.substring(0, line.indexOf(' '));
            boolean single = "counts short panel team final".contains(first) || first.equals("group");
            if (first.equals("limit")) {
                first = line.substring(line.indexOf("of"));
                single = true;
            } else if (first.equals("group")) {
                first = line.substring(0, 7);
            } else if (first.equals("link")) {
                first = line.substring(0, line.lastIndexOf(' '));
                single = true;
            } else if (first.equals("part") || first.equals("fault")) {
                first = line.substring(0, line.indexOf(' ', first.length() + 1));
                single = true;
            }
            boolean fits = sound < 0 || !line.contains("z") && roomFor(line, once);
            if (fits && (!single || once.add(first) || slips(30))) {
                text.append(line).append(once(3) ? " ;" : ";").append(once(5) ? "\n  " : "");
            }
        }
        return sound < 0 && once(3) ? spoiled(text.toString()) : text.toString();
    }

    private String spoiled(String text) {
        int at = below(text.length() + 1);
        switch (below(4)) {
            case 0:
                return text.substring(0, at);
            case 1:
                return text.substring(0, at) + "; 3a:\u00ffz \n".charAt(below(9)) + text.substring(at);
            case 2:
                return at < text.length() ? text.substring(0, at) + text.substring(at + 1) : text;
            default:
                String[] words = text.split("(?<=[ ;])");
                words[below(words.length)] = words[below(words.length)];
                return String.join("", words);
        }
    }

    private void tell(String text) {
        String put = text.length() > 2900 ? text.substring(0, 2900) : text;
        call("end", 0);
        for (int at = 0; at < put.length(); at += 20) {
            int[] ints = new int[5];
            for (int k = 0; k < 20; k++) {
                int sign = at + k < put.length() ? put.charAt(at + k) : below(256);
                ints[k / 4] = ints[k / 4] << 8 | sign;
            }
            call("feed", ints);
        }
        call("end", put.length());
        call("code");
        call("fault", arg(2));
        call("fault", arg(2));
    }

    /** A routine from its begin to where chance leaves it. */
    private void perform(int g, int a, int most) {
        call("begin", g, a);
        int parts = Math.max(1, model.code.parts.size());
        int entries = below(most + 1);
        for (int n = 0; n < entries; n++) {
            call("entry", g, a, once(30) ? -1 : arg(parts));
        }
        if (once(2) && !model.code.slips.isEmpty()) {
            for (int n = below(4); n > 0; n--) {
                call("see", g, a, arg(model.judges()), arg(model.code.slips.size()), arg(Math.max(1, entries)));
            }
        }
        if (once(3)) {
            call("routine", g, a, 1 + below(2));
        }
        int middle = below(80);
        for (int j = 0; j < model.judges(); j++) {
            call("mark", g, a, once(25) ? arg(6) : j, Math.min(100, middle + below(once(3) ? 21 : 4)));
        }
        int asked = call("asked", g, a);
        for (int j = 0; j < 6 && asked > 0; j++) {
            if ((asked >> j & 1) != 0 && !once(8)) {
                call("mark", g, a, j, arg(101));
            }
        }
        if (!once(6)) {
            call("post", g, a, Math.max(model.clock, model.clock + (once(20) ? below(9) - 4 : below(3))));
        }
    }

    private void anyCall() {
        int gymnasts = Math.max(1, model.lands.size());
        int g = arg(gymnasts);
        int a = arg(4);
        int parts = Math.max(1, model.code.parts.size());
        switch (below(22)) {
            case 0: call("enter", arg(once(2) ? 10 : 3)); break;
            case 1: call("begin", g, a); break;
            case 2: call("entry", g, a, arg(parts)); break;
            case 3: call("mark", g, a, arg(model.judges()), arg(101)); break;
            case 4: call("asked", g, a); break;
            case 5: call("see", g, a, arg(model.judges()), arg(model.code.slips.size()), arg(8)); break;
            case 6: call("post", g, a, arg(once(30) ? 99 : 1) + model.clock); break;
            case 7: case 8: call("routine", g, a, arg(30)); break;
            case 9: case 10: call("inquire", g, a, once(9) ? arg(9) : model.clock + below(3)); break;
            case 11: case 12: call("answer", g, a, arg(6), arg(parts)); break;
            case 13: call("withdraw", g, arg(5)); break;
            case 14: call("list", arg(5)); break;
            case 15: case 16: call("place", arg(5), arg(8), arg(4)); break;
            case 17: call("finalist", arg(5), arg(5)); break;
            case 18: call("land", arg(once(2) ? 10 : 3), arg(5)); break;
            case 19: call("standing", arg(once(2) ? 10 : 3)); break;
            case 20: call("count", arg(46)); break;
            default:
                call(once(2) ? "fees" : "fault", arg(10));
                call("part", arg(parts), arg(4));
                break;
        }
    }

    private void inquireAndAnswer() {
        int g = arg(Math.max(1, model.lands.size()));
        int a = arg(4);
        call("inquire", g, a, model.clock + (once(4) ? below(4) : 0));
        call("answer", g, a, arg(5), arg(Math.max(1, model.code.parts.size())));
        call("routine", g, a, 1 + below(10));
    }

    private void run(int most) {
        if (once(12)) {
            for (int n = 0; n < 60; n++) {
                anyCall();
            }
        }
        tell(text());
        if (model.fault != null && once(2)) {
            tell(text());
        }
        int lands = 1 + below(once(3) ? 10 : 3);
        int gymnasts = 2 + below(once(9) ? 45 : 8);
        for (int n = 0; n < gymnasts; n++) {
            call("enter", arg(lands));
        }
        while (calls < 512) {
            if (once(60)) {
                tell(text());
            } else if (once(3)) {
                perform(arg(Math.max(1, model.lands.size())), arg(4), most);
            } else if (once(3)) {
                inquireAndAnswer();
            } else {
                anyCall();
            }
        }
        lookAtAll();
    }

    private void lookAtAll() {
        for (int g = 0; g < model.lands.size(); g++) {
            for (int a = 0; a < 4; a++) {
                for (int what = 0; what < 37; what++) {
                    call("routine", g, a, what);
                }
                call("asked", g, a);
            }
        }
        for (int a = -1; a < 6; a++) {
            call("list", a);
            for (int i = 0; i <= Math.max(0, model.list(a)); i++) {
                for (int what = 0; what < 4; what++) {
                    call("place", a, i, what);
                }
                call("finalist", a, i);
            }
            for (int l = -1; l <= 10; l++) {
                call("land", l, a);
            }
        }
        for (int what = -2; what < 50; what++) {
            call("count", what);
            call("fees", what);
            call("standing", what);
            call("fault", what);
            call("part", what, 2);
        }
    }

    public static void main(String[] args) {
        int runs = args.length > 0 ? Integer.parseInt(args[0]) : 1500;
        long from = args.length > 1 ? Long.parseLong(args[1]) : 1;
        long all = 0;
        Map<String, Integer> answers = new TreeMap<>();
        for (long seed = from; seed < from + runs; seed++) {
            ModelTest test = new ModelTest(seed);
            test.run(seed % 50 == 0 ? 16 : 8);
            all += test.calls;
            if (args.length > 2) {
                for (String line : test.told.toString().split("\n")) {
                    String name = line.substring(0, line.indexOf('['));
                    int want = Integer.parseInt(line.substring(line.lastIndexOf(' ') + 1));
                    answers.merge(name + (want < 0 ? " " + want : want == 0 ? " 0" : " more"), 1, Integer::sum);
                    if (name.equals("fault") && line.startsWith("fault[0]")) {
                        answers.merge("KIND " + want, 1, Integer::sum);
                    }
                }
            }
            if (test.wrong != 0) {
                System.out.println("ModelTest: wrong in the run of seed " + seed);
                System.exit(1);
            }
        }
        answers.forEach((name, times) -> System.out.println(name + ": " + times));
        System.out.println("ModelTest: " + runs + " runs, " + all + " calls, 0 wrong");
    }
}
