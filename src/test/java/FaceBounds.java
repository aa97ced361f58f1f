import java.lang.reflect.Field;
import java.lang.reflect.Method;
import java.lang.reflect.Modifier;

/** What stands ahead of the document's terms and behind its promises: what it is, its face, what isn't promised. */
final class FaceBounds {
    private static final int CALLS = 512;

    private static final String CODE = "part kip 3 in 0; part flip 8 in 1; part twist 6 in 1 as flip; part salto 9 in 2;"
        + "link kip salto 2; limit 1 of 1; short 2 less 10; fault step 1 each; fault fall 10; panel 3 span 4;"
        + "team 2 of 1; final 1 land 1;";
    private static final int KIP = 0;
    private static final int FLIP = 1;
    private static final int TWIST = 2;
    private static final int SALTO = 3;

    private final Sheet sheet;

    FaceBounds(Sheet sheet) {
        this.sheet = sheet;
    }

    void run() {
        aCodeInAText();
        aRoutinesWorth();
        marksAndFaults();
        scoresTeamsAndFinals();
        calls();
        publicFace();
        notPromised();
    }

    private void aCodeInAText() {
        sheet.section("What it is");
        sheet.says("A desk of judges of gymnasts: a code in a text tells parts with worths and groups, links, what counts"
            + " as one, what is taken off;");
        GymDesk x = new GymDesk();
        sheet.due("code()", Desks.code(x, CODE), 4);
        sheet.due("a worth", x.part(SALTO, 0), 9);
        sheet.due("a group", x.part(SALTO, 1), 2);
        sheet.due("a link", x.part(KIP, 3), 1);
        sheet.due("what counts as one", x.part(TWIST, 2), FLIP);
        x.enter(0);
        x.begin(0, 0);
        x.entry(0, 0, KIP);
        sheet.due("what is taken off", x.see(0, 0, 0, 1, 0), 10);
    }

    private void aRoutinesWorth() {
        sheet.says("a routine's worth is the greatest lawful choice of its parts,");
        GymDesk x = Desks.routine(CODE, KIP, SALTO, FLIP, TWIST);
        sheet.due("D", x.routine(0, 0, 1), 3 + 9 + 2 + 8);
        sheet.due("its choice", x.routine(0, 0, 2), 0b0111);
        sheet.due("a repeat isn't in it", x.routine(0, 0, 7), 1);
        x = Desks.routine(CODE + "counts 1;", KIP, SALTO, FLIP);
        sheet.due("D of one alone", x.routine(0, 0, 1), 0);
        sheet.due("its choice", x.routine(0, 0, 2), 0b010);
    }

    private void marksAndFaults() {
        sheet.says("marks come from a panel whose strays are asked anew,");
        GymDesk x = Desks.routine(CODE, KIP, SALTO);
        x.mark(0, 0, 0, 10);
        x.mark(0, 0, 1, 14);
        sheet.due("marks so far", x.mark(0, 0, 2, 19), 3);
        sheet.due("strays", x.asked(0, 0), 0b100);
        sheet.due("a score without them", x.post(0, 0, 0), -1);
        sheet.due("the stray anew", x.mark(0, 0, 2, 12), 3);
        sheet.due("no more strays", x.asked(0, 0), 0);
        sheet.says("faults count once whoever saw them,");
        sheet.due("the first who saw", x.see(0, 0, 0, 0, 1), 1);
        sheet.due("the second who saw", x.see(0, 0, 1, 0, 1), 1);
        sheet.due("the third who saw", x.see(0, 0, 2, 0, 1), 1);
        sheet.due("score", x.post(0, 0, 0), 1400 + 10000 - 1200 - 100);
    }

    private void scoresTeamsAndFinals() {
        sheet.says("scores are posted, inquired after and mended,");
        GymDesk x = Desks.under(CODE);
        Desks.perform(x, 7, 0, 10, SALTO, KIP);
        Desks.perform(x, 7, 0, 20, KIP, SALTO);
        Desks.perform(x, 8, 0, 30, KIP, SALTO);
        sheet.due("posted", x.post(0, 0, 1), 1200 + 9000);
        sheet.due("posted", x.post(1, 0, 1), 1400 + 8000);
        sheet.due("posted", x.post(2, 0, 1), 1400 + 7000);
        sheet.due("inquired after", x.inquire(0, 0, 2), 1);
        sheet.due("mended", x.answer(0, 0, 1, FLIP), 1700 + 9000);
        sheet.says("teams and finals follow.");
        sheet.due("a third of the land", x.enter(7), 3);
        sheet.due("has no place in its team", x.begin(3, 0), -3);
        sheet.due("the best one counts", x.land(7, 0), 10700);
        sheet.due("the other land", x.standing(8), 2);
        sheet.due("the finalist", x.finalist(0, 0), 0);
        sheet.due("no second one", x.finalist(0, 1), -1);
        sheet.due("nor by the list", x.place(0, 1, 3), 0);
    }

    private void calls() {
        sheet.says("An object is used for at most 512 calls after it has been made;");
        GymDesk x = new GymDesk();
        for (int n = 1; n < CALLS; n++) {
            sheet.due("call " + n, x.enter(n % 10), n <= 40 ? n - 1 : -3);
        }
        sheet.due("call 512", x.count(12), 40);
        sheet.passesOver("what later calls answer is free.");
    }

    private void publicFace() {
        sheet.section("The public face");
        sheet.says("public final class GymDesk {");
        sheet.due("modifiers", GymDesk.class.getModifiers(), Modifier.PUBLIC | Modifier.FINAL);
        constant("NONE", -1);
        constant("RANGE", -2);
        constant("FULL", -3);
        sheet.says("public GymDesk();");
        sheet.due("public constructors", GymDesk.class.getConstructors().length, 1);
        sheet.due("their parameters", GymDesk.class.getConstructors()[0].getParameterCount(), 0);
        String[] methods = {"feed(int a, int b, int c, int d, int e)", "end(int n)", "code()", "fault(int what)",
            "part(int p, int what)", "enter(int land)", "begin(int g, int a)", "entry(int g, int a, int p)",
            "mark(int g, int a, int judge, int mark)", "asked(int g, int a)",
            "see(int g, int a, int judge, int f, int i)", "post(int g, int a, int time)",
            "routine(int g, int a, int what)", "inquire(int g, int a, int time)",
            "answer(int g, int a, int i, int p)", "withdraw(int g, int a)", "list(int a)",
            "place(int a, int i, int what)", "finalist(int a, int i)", "land(int land, int a)", "standing(int land)",
            "count(int what)", "fees(int land)"};
        for (String m : methods) {
            sheet.says("public int " + m + ";");
            sheet.due("methods of that name and parameters", methodsLike(m), 1);
        }
    }

    private void constant(String name, int value) {
        sheet.says("public static final int " + name + " = " + value + ";");
        int found = 0;
        for (Field f : GymDesk.class.getFields()) {
            boolean isConstant = f.getModifiers() == (Modifier.PUBLIC | Modifier.STATIC | Modifier.FINAL);
            if (f.getName().equals(name) && isConstant && f.getType() == int.class) {
                found++;
            }
        }
        sheet.due("constants of that name", found, 1);
        int held = name.equals("NONE") ? GymDesk.NONE : name.equals("RANGE") ? GymDesk.RANGE : GymDesk.FULL;
        sheet.due("its value", held, value);
    }

    private static int methodsLike(String wanted) {
        int parameters = wanted.split("int ", -1).length - 1;
        int found = 0;
        for (Method m : GymDesk.class.getMethods()) {
            boolean fits = m.getModifiers() == Modifier.PUBLIC && m.getReturnType() == int.class;
            for (Class<?> type : m.getParameterTypes()) {
                fits &= type == int.class;
            }
            if (fits && wanted.startsWith(m.getName() + "(") && m.getParameterCount() == parameters) {
                found++;
            }
        }
        return found;
    }

    private void notPromised() {
        sheet.section("Not promised");
        sheet.passesOver("How the state is held inside the object is free, as are the speed of each call, the text of"
            + " toString and the behaviour of equals and hashCode. Use of one object from several threads at once is not"
            + " promised to be safe.");
        sheet.says("Nothing is promised beyond the answers and state changes described above,");
        GymDesk x = Desks.routine(CODE, KIP);
        GymDesk other = Desks.routine("part a 30 in 4; panel 1 span 50;", 0);
        sheet.due("one object", x.mark(0, 0, 2, 1), 1);
        sheet.due("another beside it", other.mark(0, 0, 2, 1), -2);
        sheet.due("its own mark", other.mark(0, 0, 0, 0), 1);
        sheet.due("its own score", other.post(0, 0, 9), 13000);
        sheet.due("the first one's clock", x.count(14), 0);
        sheet.due("the first one's marks", x.routine(0, 0, 6), 1);
        sheet.due("the first one's D", x.routine(0, 0, 1), 0);
        sheet.passesOver("and nothing about an object after its 512th call.");
    }
}
