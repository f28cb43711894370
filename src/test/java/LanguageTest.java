import com.sun.source.tree.*;
import com.sun.source.util.JavacTask;
import com.sun.source.util.SourcePositions;
import com.sun.source.util.TreePath;
import com.sun.source.util.TreePathScanner;
import com.sun.source.util.Trees;
import java.io.IOException;
import java.nio.charset.StandardCharsets;
import java.nio.file.Files;
import java.nio.file.Path;
import java.util.ArrayList;
import java.util.EnumSet;
import java.util.HashMap;
import java.util.HashSet;
import java.util.List;
import java.util.Locale;
import java.util.Map;
import java.util.Set;
import java.util.TreeMap;
import java.util.TreeSet;
import javax.lang.model.element.Element;
import javax.lang.model.element.ElementKind;
import javax.lang.model.element.ExecutableElement;
import javax.lang.model.element.Modifier;
import javax.lang.model.element.TypeElement;
import javax.lang.model.type.TypeKind;
import javax.lang.model.type.TypeMirror;
import javax.tools.JavaCompiler;
import javax.tools.StandardJavaFileManager;
import javax.tools.ToolProvider;

/**
 * The rules of ../shared/LANGUAGE.md, looked at in the tree that javac makes of the class. What a rule allows
 * is listed as far as the class uses it: whoever uses more of it adds it here with the rule in hand.
 */
public final class LanguageTest {
    private static final Path PROGRAM = Path.of("src", "main", "java", "FloeToFloe.java");
    private static final int MOST_PARAMETERS = 7;
    private static final int MOST_LINES = 60;
    private static final int MOST_DEEP = 8;
    private static final int MOST_CLASSES = 12;
    private static final int MOST_FIELDS = 20;

    // Rules 2, 6, 9 and 10: no throw, try, catch, assert, lambda, method reference, cast but of a number, pattern.
    private static final Set<Tree.Kind> ALLOWED = EnumSet.of(Tree.Kind.COMPILATION_UNIT, Tree.Kind.CLASS, Tree.Kind.METHOD,
            Tree.Kind.VARIABLE, Tree.Kind.MODIFIERS, Tree.Kind.PRIMITIVE_TYPE, Tree.Kind.ARRAY_TYPE, Tree.Kind.BLOCK,
            Tree.Kind.EXPRESSION_STATEMENT, Tree.Kind.IF, Tree.Kind.FOR_LOOP, Tree.Kind.WHILE_LOOP, Tree.Kind.SWITCH,
            Tree.Kind.CASE, Tree.Kind.RETURN, Tree.Kind.PARENTHESIZED, Tree.Kind.CONDITIONAL_EXPRESSION, Tree.Kind.ASSIGNMENT,
            Tree.Kind.METHOD_INVOCATION, Tree.Kind.MEMBER_SELECT, Tree.Kind.IDENTIFIER, Tree.Kind.ARRAY_ACCESS,
            Tree.Kind.NEW_ARRAY, Tree.Kind.NEW_CLASS, Tree.Kind.TYPE_CAST, Tree.Kind.INT_LITERAL, Tree.Kind.CHAR_LITERAL,
            Tree.Kind.STRING_LITERAL, Tree.Kind.BOOLEAN_LITERAL, Tree.Kind.POSTFIX_INCREMENT, Tree.Kind.POSTFIX_DECREMENT,
            Tree.Kind.UNARY_MINUS, Tree.Kind.LOGICAL_COMPLEMENT, Tree.Kind.PLUS, Tree.Kind.MINUS, Tree.Kind.MULTIPLY,
            Tree.Kind.DIVIDE, Tree.Kind.REMAINDER, Tree.Kind.LEFT_SHIFT, Tree.Kind.RIGHT_SHIFT, Tree.Kind.AND, Tree.Kind.OR,
            Tree.Kind.CONDITIONAL_AND, Tree.Kind.CONDITIONAL_OR, Tree.Kind.EQUAL_TO, Tree.Kind.NOT_EQUAL_TO,
            Tree.Kind.LESS_THAN, Tree.Kind.LESS_THAN_EQUAL, Tree.Kind.GREATER_THAN, Tree.Kind.GREATER_THAN_EQUAL,
            Tree.Kind.PLUS_ASSIGNMENT, Tree.Kind.OR_ASSIGNMENT);
    // Rule 4, and with it rule 13: nothing else of the library may be called.
    private static final Set<String> LIBRARY = Set.of("java.lang.String.length", "java.lang.String.charAt", "java.lang.Math.abs",
            "java.lang.Math.max", "java.lang.Math.floorMod", "java.lang.Integer.bitCount");
    private static final Set<String> FACE = Set.of("letter", "river", "floe", "is", "bears", "pass", "next", "crowd", "soonest",
            "leaps", "reach", "await", "heaviest", "needed", "poles", "from", "byNow", "row", "fitting", "judge", "ends", "clear",
            "seeds", "image", "on", "count");

    public static void main(String[] args) throws IOException {
        JavaCompiler compiler = ToolProvider.getSystemJavaCompiler();
        try (StandardJavaFileManager files = compiler.getStandardFileManager(null, Locale.ROOT, StandardCharsets.UTF_8)) {
            JavacTask task = (JavacTask) compiler.getTask(null, files, null, List.of("-proc:none"), null,
                    files.getJavaFileObjects(PROGRAM));
            List<CompilationUnitTree> units = new ArrayList<>();
            task.parse().forEach(units::add);
            task.analyze();
            Due.is("files", units.size(), 1);
            oneFile(units.get(0));
            Look look = new Look(Trees.instance(task), units.get(0));
            look.scan(units.get(0), null);
            look.noRecursion();
        }
        signsOfTheText(Files.readString(PROGRAM));
        Due.end();
    }

    /** "one file .. without a package line", "no library but what it lists": nothing is imported. */
    private static void oneFile(CompilationUnitTree unit) {
        Due.isTrue("rule 1: no package line", unit.getPackageName() == null);
        Due.is("rule 4: imports", unit.getImports().size(), 0);
        Due.is("rule 1: classes of the file", unit.getTypeDecls().size(), 1);
    }

    /** "constants, whose signs are 1 to 127". */
    private static void signsOfTheText(String text) {
        Due.is("rule 4: signs above 127", text.chars().filter(sign -> sign > 127).count(), 0);
        Due.isTrue("rule 4: no sign told by its number", !text.contains("\\u"));
    }

    /** Looks at each part of the tree; keeps which method calls which. */
    private static final class Look extends TreePathScanner<Void, Void> {
        private final Trees trees;
        private final CompilationUnitTree unit;
        private final SourcePositions positions;
        private final Map<String, Set<String>> calls = new TreeMap<>();
        private int classes;

        Look(Trees trees, CompilationUnitTree unit) {
            this.trees = trees;
            this.unit = unit;
            this.positions = trees.getSourcePositions();
        }

        @Override
        public Void scan(Tree tree, Void nothing) {
            if (tree != null && positions.getStartPosition(unit, tree) >= 0) {
                Due.isTrue("rules 2, 6, 10: " + tree.getKind() + " in line " + lineOf(tree), ALLOWED.contains(tree.getKind()));
            }
            return super.scan(tree, nothing);
        }

        @Override
        public Void visitClass(ClassTree type, Void nothing) {
            classes++;
            Due.isTrue("rule 11: classes", classes <= MOST_CLASSES);
            TypeElement element = (TypeElement) element(type);
            boolean isInside = element.getEnclosingElement().getKind() == ElementKind.CLASS;
            Due.isTrue("rule 2: " + element + " is a member", isInside || element.getQualifiedName().contentEquals("FloeToFloe"));
            Due.isTrue("rule 1: " + element, element.getModifiers().contains(isInside ? Modifier.STATIC : Modifier.PUBLIC));
            Due.isTrue("rule 1: " + element, element.getModifiers().contains(Modifier.FINAL));
            Due.isTrue("rule 1: " + element, !isInside || !element.getModifiers().contains(Modifier.PUBLIC));
            Due.isTrue("rule 5: " + element + " has no initialiser block",
                    type.getMembers().stream().noneMatch(member -> member.getKind() == Tree.Kind.BLOCK));
            Due.isTrue("rule 11: " + element + " has some twenty fields", element.getEnclosedElements().stream()
                    .filter(e -> e.getKind() == ElementKind.FIELD && !e.getModifiers().contains(Modifier.STATIC)).count() <= MOST_FIELDS);
            return super.visitClass(type, nothing);
        }

        @Override
        public Void visitMethod(MethodTree method, Void nothing) {
            ExecutableElement element = (ExecutableElement) element(method);
            String name = nameOf(element);
            Due.isTrue("rule 11: parameters of " + name, method.getParameters().size() <= MOST_PARAMETERS);
            Due.isTrue("rule 11: lines of " + name, linesOf(method) <= MOST_LINES);
            Due.isTrue("rule 6: " + name + " throws", method.getThrows().isEmpty());
            Due.isTrue("rule 6: " + name, !Set.of("equals", "hashCode", "toString").contains(method.getName().toString()));
            Set<Modifier> modifiers = element.getModifiers();
            boolean isOuter = element.getEnclosingElement().getSimpleName().contentEquals("FloeToFloe");
            boolean isFace = isOuter && FACE.contains(method.getName().toString());
            boolean isMade = element.getKind() == ElementKind.CONSTRUCTOR;
            Due.isTrue("rule 1: " + name + " is of the face, or its name is not", isFace || !FACE.contains(method.getName().toString()));
            Due.isTrue("rule 1: " + name + " is public as the face is", isMade || isFace == modifiers.contains(Modifier.PUBLIC));
            Due.isTrue("rule 1: " + name + " is private or of the face", !isOuter || isFace || isMade || modifiers.contains(Modifier.PRIVATE));
            Due.isTrue("rule 12: the constructor " + name + " does nothing", !isMade || isEmpty(method));
            calls.putIfAbsent(name, new TreeSet<>());
            return super.visitMethod(method, nothing);
        }

        @Override
        public Void visitVariable(VariableTree variable, Void nothing) {
            Element element = element(variable);
            TypeMirror type = element.asType();
            String name = element + " in line " + lineOf(variable);
            Due.isTrue("rule 3: " + name + " is " + type, isAllowed(type));
            boolean isField = element.getKind() == ElementKind.FIELD;
            Set<Modifier> modifiers = element.getModifiers();
            Due.isTrue("rule 1: " + name + " is private", !isField || modifiers.contains(Modifier.PRIVATE));
            if (isField && modifiers.contains(Modifier.STATIC)) {
                Due.isTrue("rule 5: " + name + " is final", modifiers.contains(Modifier.FINAL));
                Due.isTrue("rule 5: " + name + " is a constant", type.getKind().isPrimitive() || isString(type));
            }
            return super.visitVariable(variable, nothing);
        }

        @Override
        public Void visitMethodInvocation(MethodInvocationTree call, Void nothing) {
            Element called = element(call);
            // The tree holds the call of Object's constructor too, which javac puts there itself.
            if (called != null && called.getKind() == ElementKind.METHOD) {
                String name = nameOf((ExecutableElement) called);
                calls.computeIfAbsent(caller(), unknown -> new TreeSet<>()).add(name);
                if (!called.getEnclosingElement().toString().startsWith("FloeToFloe")) {
                    Due.isTrue("rule 4: " + name + " in line " + lineOf(call), LIBRARY.contains(name));
                }
            }
            return super.visitMethodInvocation(call, nothing);
        }

        @Override
        public Void visitNewClass(NewClassTree made, Void nothing) {
            Due.isTrue("rule 2: no body in line " + lineOf(made), made.getClassBody() == null);
            Due.isTrue("rule 12: nothing of the object is handed out in line " + lineOf(made), made.getArguments().isEmpty());
            madeWithTheObject(made);
            return super.visitNewClass(made, nothing);
        }

        @Override
        public Void visitNewArray(NewArrayTree made, Void nothing) {
            Due.is("rule 3: dimensions in line " + lineOf(made), made.getDimensions().size(), 1);
            madeWithTheObject(made);
            return super.visitNewArray(made, nothing);
        }

        /** "make rows in constructors and use them again": all that is made is made as a field's first value. */
        private void madeWithTheObject(Tree made) {
            Tree holder = getCurrentPath().getParentPath().getLeaf();
            Due.isTrue("rule 12: made in a call in line " + lineOf(made), holder instanceof VariableTree field
                    && element(field).getKind() == ElementKind.FIELD);
        }

        @Override
        public Void visitWhileLoop(WhileLoopTree loop, Void nothing) {
            Due.isTrue("rule 9: the end of the loop in line " + lineOf(loop), isBounded(loop.getCondition()));
            return super.visitWhileLoop(loop, nothing);
        }

        @Override
        public Void visitForLoop(ForLoopTree loop, Void nothing) {
            Due.isTrue("rule 9: the end of the loop in line " + lineOf(loop), loop.getCondition() != null
                    && isBounded(loop.getCondition()) && loop.getUpdate().size() == 1);
            return super.visitForLoop(loop, nothing);
        }

        /** A condition that compares two numbers, alone or with more to hold. */
        private static boolean isBounded(ExpressionTree condition) {
            if (condition instanceof ParenthesizedTree inside) {
                return isBounded(inside.getExpression());
            }
            if (condition instanceof BinaryTree both && both.getKind() == Tree.Kind.CONDITIONAL_AND) {
                return isBounded(both.getLeftOperand()) || isBounded(both.getRightOperand());
            }
            return Set.of(Tree.Kind.LESS_THAN, Tree.Kind.LESS_THAN_EQUAL, Tree.Kind.GREATER_THAN, Tree.Kind.GREATER_THAN_EQUAL)
                    .contains(condition.getKind());
        }

        @Override
        public Void visitSwitch(SwitchTree choice, Void nothing) {
            Due.isTrue("rule 10: a switch on a number in line " + lineOf(choice), typeOf(choice.getExpression()).isPrimitive());
            return super.visitSwitch(choice, nothing);
        }

        @Override
        public Void visitTypeCast(TypeCastTree cast, Void nothing) {
            Due.isTrue("rule 6: a cast of a number in line " + lineOf(cast), typeOf(cast.getType()).isPrimitive());
            return super.visitTypeCast(cast, nothing);
        }

        @Override
        public Void visitBinary(BinaryTree both, Void nothing) {
            boolean numbers = typeOf(both.getLeftOperand()).isPrimitive() && typeOf(both.getRightOperand()).isPrimitive();
            Due.isTrue("rules 6, 10: numbers or truths on both sides in line " + lineOf(both), numbers);
            boolean divides = both.getKind() == Tree.Kind.DIVIDE || both.getKind() == Tree.Kind.REMAINDER;
            Due.isTrue("rule 7: a divisor that is no 0 in line " + lineOf(both), !divides || isPositive(both.getRightOperand()));
            return super.visitBinary(both, nothing);
        }

        private boolean isPositive(ExpressionTree divisor) {
            Element element = trees.getElement(new TreePath(getCurrentPath(), divisor));
            Object value = divisor instanceof LiteralTree literal ? literal.getValue()
                    : element instanceof javax.lang.model.element.VariableElement constant ? constant.getConstantValue() : null;
            return value instanceof Integer number && number > 0;
        }

        /** Rule 8: no method comes back to itself, and the deepest chain of calls is short. */
        void noRecursion() {
            int deepest = 0;
            for (String method : calls.keySet()) {
                deepest = Math.max(deepest, deepOf(method, new HashSet<>(), new HashMap<>()));
            }
            Due.isTrue("rule 11: calls go " + deepest + " deep", deepest > 1 && deepest <= MOST_DEEP);
        }

        private int deepOf(String method, Set<String> open, Map<String, Integer> known) {
            if (known.containsKey(method)) {
                return known.get(method);
            }
            open.add(method);
            int deep = 0;
            for (String called : calls.getOrDefault(method, Set.of())) {
                boolean comesBack = open.contains(called);
                Due.isTrue("rule 8: " + method + " calls " + called + ", which calls it", !comesBack);
                deep = Math.max(deep, comesBack ? 0 : deepOf(called, open, known));
            }
            open.remove(method);
            known.put(method, deep + 1);
            return deep + 1;
        }

        private String caller() {
            TreePath path = getCurrentPath();
            while (path != null && !(path.getLeaf() instanceof MethodTree)) {
                path = path.getParentPath();
            }
            return path == null ? "a field" : nameOf((ExecutableElement) trees.getElement(path));
        }

        private Element element(Tree tree) {
            TreePath path = tree == getCurrentPath().getLeaf() ? getCurrentPath() : TreePath.getPath(unit, tree);
            return trees.getElement(path);
        }

        private TypeKind typeOf(Tree tree) {
            return trees.getTypeMirror(new TreePath(getCurrentPath(), tree)).getKind();
        }

        private static boolean isString(TypeMirror type) {
            return type.toString().equals("java.lang.String");
        }

        private static boolean isAllowed(TypeMirror type) {
            String name = type.toString().replace("[]", "");
            return Set.of("int", "char", "boolean", "int[]", "char[]").contains(type.toString()) || isString(type)
                    || name.startsWith("FloeToFloe.") && name.equals(type.toString());
        }

        private static boolean isEmpty(MethodTree constructor) {
            return constructor.getBody().getStatements().stream().allMatch(line -> line.toString().startsWith("super("));
        }

        private static String nameOf(ExecutableElement method) {
            return method.getEnclosingElement() + "." + method.getSimpleName();
        }

        private long lineOf(Tree tree) {
            return unit.getLineMap().getLineNumber(positions.getStartPosition(unit, tree));
        }

        private long linesOf(Tree tree) {
            long end = positions.getEndPosition(unit, tree);
            return end < 0 ? 0 : unit.getLineMap().getLineNumber(end) - lineOf(tree) + 1;
        }
    }
}
