import com.sun.source.tree.BinaryTree;
import com.sun.source.tree.ClassTree;
import com.sun.source.tree.CompilationUnitTree;
import com.sun.source.tree.IdentifierTree;
import com.sun.source.tree.ImportTree;
import com.sun.source.tree.MemberSelectTree;
import com.sun.source.tree.MethodInvocationTree;
import com.sun.source.tree.MethodTree;
import com.sun.source.tree.NewArrayTree;
import com.sun.source.tree.NewClassTree;
import com.sun.source.tree.PrimitiveTypeTree;
import com.sun.source.tree.Tree;
import com.sun.source.tree.VariableTree;
import com.sun.source.util.JavacTask;
import com.sun.source.util.SourcePositions;
import com.sun.source.util.TreePath;
import com.sun.source.util.TreePathScanner;
import com.sun.source.util.Trees;
import java.lang.reflect.Constructor;
import java.lang.reflect.Field;
import java.lang.reflect.Method;
import java.lang.reflect.Modifier;
import java.nio.file.Path;
import java.util.Arrays;
import java.util.EnumSet;
import java.util.HashMap;
import java.util.List;
import java.util.Map;
import java.util.Set;
import java.util.TreeSet;
import javax.lang.model.element.ElementKind;
import javax.lang.model.element.ExecutableElement;
import javax.lang.model.element.TypeElement;
import javax.lang.model.type.TypeKind;
import javax.tools.JavaCompiler;
import javax.tools.StandardJavaFileManager;
import javax.tools.ToolProvider;

/** The face of the document, and of ../shared/LANGUAGE.md those rules that can be seen in the source. */
public final class LanguageTest {
    private static final List<String> FACE = List.of("feed 5", "end 1", "code 0", "fault 1", "part 2", "enter 1",
        "begin 2", "entry 3", "mark 4", "asked 2", "see 5", "post 3", "routine 3", "inquire 3", "answer 4",
        "withdraw 2", "list 1", "place 3", "finalist 2", "land 2", "standing 1", "count 1", "fees 1");
    private static final Set<String> LIBRARY = Set.of("Math.min", "Math.max", "Math.abs", "Math.floorDiv",
        "Integer.bitCount", "String.length", "String.charAt");
    private static final Set<Tree.Kind> FORBIDDEN = EnumSet.of(Tree.Kind.THROW, Tree.Kind.TRY, Tree.Kind.CATCH,
        Tree.Kind.SYNCHRONIZED, Tree.Kind.ASSERT, Tree.Kind.LAMBDA_EXPRESSION, Tree.Kind.MEMBER_REFERENCE,
        Tree.Kind.INSTANCE_OF, Tree.Kind.ANNOTATION, Tree.Kind.SWITCH_EXPRESSION);
    private static int wrong = 0;

    private static void check(boolean holds, String what) {
        if (!holds) {
            wrong++;
            System.out.println("LanguageTest: " + what);
        }
    }

    private static void face() {
        Class<?> desk = GymDesk.class;
        check(desk.getModifiers() == (Modifier.PUBLIC | Modifier.FINAL), "the class is public and final");
        check(desk.getSuperclass() == Object.class && desk.getInterfaces().length == 0, "it stands alone");
        Constructor<?>[] made = desk.getDeclaredConstructors();
        check(made.length == 1 && made[0].getModifiers() == Modifier.PUBLIC && made[0].getParameterCount() == 0,
            "one public constructor without parameters");
        Set<String> left = new TreeSet<>(FACE);
        for (Method m : desk.getDeclaredMethods()) {
            if (!Modifier.isPrivate(m.getModifiers())) {
                check(m.getModifiers() == Modifier.PUBLIC && m.getReturnType() == int.class
                    && Arrays.stream(m.getParameterTypes()).allMatch(t -> t == int.class)
                    && left.remove(m.getName() + " " + m.getParameterCount()), "a method not of the face: " + m);
            }
        }
        check(left.isEmpty(), "methods wanting: " + left);
        Set<String> constants = new TreeSet<>(Set.of("NONE", "RANGE", "FULL"));
        for (Field f : desk.getDeclaredFields()) {
            if (!Modifier.isPrivate(f.getModifiers())) {
                check(f.getModifiers() == (Modifier.PUBLIC | Modifier.STATIC | Modifier.FINAL)
                    && f.getType() == int.class && constants.remove(f.getName()), "a field not of the face: " + f);
            }
        }
        check(constants.isEmpty(), "constants wanting: " + constants);
        check(GymDesk.NONE == -1 && GymDesk.RANGE == -2 && GymDesk.FULL == -3, "the constants' values");
        for (Class<?> inside : desk.getDeclaredClasses()) {
            int bits = inside.getModifiers();
            check(Modifier.isStatic(bits) && !Modifier.isPublic(bits) && !Modifier.isProtected(bits),
                "a class inside that isn't static or is seen outside: " + inside);
        }
    }

    private static final class Look extends TreePathScanner<Void, Void> {
        final Trees trees;
        final CompilationUnitTree unit;
        final SourcePositions positions;
        final Map<String, Set<String>> calls = new HashMap<>();
        final Map<String, Integer> depths = new HashMap<>();
        String method = "";
        int classes;

        Look(Trees trees, CompilationUnitTree unit) {
            this.trees = trees;
            this.unit = unit;
            positions = trees.getSourcePositions();
        }

        private long line(long position) {
            return unit.getLineMap().getLineNumber(position);
        }

        private String at(Tree tree) {
            return "line " + line(positions.getStartPosition(unit, tree)) + ": ";
        }

        @Override
        public Void scan(Tree tree, Void none) {
            if (tree != null) {
                check(!FORBIDDEN.contains(tree.getKind()), at(tree) + tree.getKind());
            }
            return super.scan(tree, none);
        }

        @Override
        public Void visitImport(ImportTree tree, Void none) {
            check(false, at(tree) + "an import");
            return super.visitImport(tree, none);
        }

        @Override
        public Void visitClass(ClassTree tree, Void none) {
            classes++;
            long fields = tree.getMembers().stream().filter(m -> m instanceof VariableTree v
                && !v.getModifiers().getFlags().contains(javax.lang.model.element.Modifier.STATIC)).count();
            check(fields <= 20, at(tree) + fields + " fields in " + tree.getSimpleName());
            for (Tree member : tree.getMembers()) {
                if (member instanceof VariableTree v
                    && v.getModifiers().getFlags().contains(javax.lang.model.element.Modifier.STATIC)) {
                    String type = v.getType().toString();
                    check(v.getModifiers().getFlags().contains(javax.lang.model.element.Modifier.FINAL)
                        && Set.of("int", "long", "boolean", "char", "String").contains(type), at(v) + "static " + v);
                }
                check(member.getKind() != Tree.Kind.BLOCK, at(member) + "an initialiser block");
            }
            return super.visitClass(tree, none);
        }

        @Override
        public Void visitMethod(MethodTree tree, Void none) {
            TypeElement in = (TypeElement) trees.getElement(getCurrentPath()).getEnclosingElement();
            String name = tree.getName().toString();
            long lines = 1 + line(positions.getEndPosition(unit, tree)) - line(positions.getStartPosition(unit, tree));
            check(lines <= 60, at(tree) + name + " has " + lines + " lines");
            check(tree.getParameters().size() <= 7, at(tree) + name + " has too many parameters");
            boolean ofFace = in.getSimpleName().contentEquals("GymDesk")
                && tree.getModifiers().getFlags().contains(javax.lang.model.element.Modifier.PUBLIC);
            check(ofFace || FACE.stream().noneMatch(f -> f.startsWith(name + " ")), at(tree) + name + " is of the face");
            String before = method;
            method = in.getSimpleName() + "." + name;
            check(!calls.containsKey(method), at(tree) + method + " is there twice");
            calls.put(method, new TreeSet<>());
            super.visitMethod(tree, none);
            method = before;
            return null;
        }

        @Override
        public Void visitMethodInvocation(MethodInvocationTree tree, Void none) {
            Tree what = tree.getMethodSelect();
            ExecutableElement callee = (ExecutableElement) trees.getElement(new TreePath(getCurrentPath(), what));
            TypeElement in = (TypeElement) callee.getEnclosingElement();
            String name = in.getSimpleName() + "." + callee.getSimpleName();
            boolean own = in.getQualifiedName().toString().startsWith("GymDesk");
            check(own || LIBRARY.contains(name) || callee.getKind() == ElementKind.CONSTRUCTOR,
                at(tree) + "the library's " + name);
            if (!method.isEmpty()) {
                calls.get(method).add(name);
            }
            return super.visitMethodInvocation(tree, none);
        }

        @Override
        public Void visitNewClass(NewClassTree tree, Void none) {
            check(tree.getClassBody() == null, at(tree) + "an anonymous class");
            check(method.isEmpty() || method.endsWith(".<init>"), at(tree) + "an object made outside constructors");
            return super.visitNewClass(tree, none);
        }

        @Override
        public Void visitNewArray(NewArrayTree tree, Void none) {
            check(method.isEmpty() || method.endsWith(".<init>"), at(tree) + "an array made outside constructors");
            return super.visitNewArray(tree, none);
        }

        @Override
        public Void visitBinary(BinaryTree tree, Void none) {
            TypeKind type = trees.getTypeMirror(getCurrentPath()).getKind();
            check(type.isPrimitive(), at(tree) + "texts joined by +");
            return super.visitBinary(tree, none);
        }

        @Override
        public Void visitPrimitiveType(PrimitiveTypeTree tree, Void none) {
            TypeKind kind = tree.getPrimitiveTypeKind();
            check(kind != TypeKind.DOUBLE && kind != TypeKind.FLOAT, at(tree) + kind);
            return super.visitPrimitiveType(tree, none);
        }

        @Override
        public Void visitIdentifier(IdentifierTree tree, Void none) {
            check(!Set.of("System", "Arrays", "Object").contains(tree.getName().toString()), at(tree) + tree);
            return super.visitIdentifier(tree, none);
        }

        @Override
        public Void visitMemberSelect(MemberSelectTree tree, Void none) {
            check(!tree.getIdentifier().contentEquals("class"), at(tree) + tree);
            return super.visitMemberSelect(tree, none);
        }

        /** How many calls stand open at most in a method, itself among them; own methods and the library's. */
        int depth(String name, int open) {
            check(open < 40, name + " calls itself");
            if (open >= 40 || !calls.containsKey(name)) {
                return 1;
            }
            Integer known = depths.get(name);
            if (known == null) {
                known = 1;
                for (String callee : calls.get(name)) {
                    if (!callee.equals("Object.<init>")) {
                        known = Math.max(known, 1 + depth(callee, open + 1));
                    }
                }
                depths.put(name, known);
            }
            return known;
        }
    }

    private static void source() throws Exception {
        JavaCompiler compiler = ToolProvider.getSystemJavaCompiler();
        StandardJavaFileManager files = compiler.getStandardFileManager(null, null, null);
        Path source = Path.of(System.getProperty("source", "src/main/java/GymDesk.java"));
        JavacTask task = (JavacTask) compiler.getTask(null, files, null, List.of("-proc:none"), null,
            files.getJavaFileObjects(source));
        CompilationUnitTree unit = task.parse().iterator().next();
        task.analyze();
        check(unit.getPackageName() == null, "a package line");
        check(unit.getTypeDecls().size() == 1, "one class in the file");
        Look look = new Look(Trees.instance(task), unit);
        look.scan(unit, null);
        check(look.classes <= 12, look.classes + " classes");
        for (String name : look.calls.keySet()) {
            int depth = look.depth(name, 0);
            check(depth <= 8, name + " goes " + depth + " calls deep");
        }
        int deepest = look.depths.values().stream().mapToInt(d -> d).max().orElse(0);
        check(look.calls.size() > 50 && deepest > 3, "the look saw too little");
        System.out.println("LanguageTest: " + look.calls.size() + " methods, " + deepest + " calls deep");
    }

    public static void main(String[] args) throws Exception {
        face();
        source();
        System.out.println("LanguageTest: " + wrong + " wrong");
        if (wrong != 0) {
            System.exit(1);
        }
    }
}
