import com.sun.source.tree.AssertTree;
import com.sun.source.tree.ClassTree;
import com.sun.source.tree.CompilationUnitTree;
import com.sun.source.tree.ExpressionTree;
import com.sun.source.tree.IdentifierTree;
import com.sun.source.tree.ImportTree;
import com.sun.source.tree.InstanceOfTree;
import com.sun.source.tree.LambdaExpressionTree;
import com.sun.source.tree.LiteralTree;
import com.sun.source.tree.MemberReferenceTree;
import com.sun.source.tree.MemberSelectTree;
import com.sun.source.tree.MethodTree;
import com.sun.source.tree.NewClassTree;
import com.sun.source.tree.PrimitiveTypeTree;
import com.sun.source.tree.SynchronizedTree;
import com.sun.source.tree.ThrowTree;
import com.sun.source.tree.Tree;
import com.sun.source.tree.TryTree;
import com.sun.source.tree.TypeCastTree;
import com.sun.source.tree.VariableTree;
import com.sun.source.util.JavacTask;
import com.sun.source.util.SourcePositions;
import com.sun.source.util.TreeScanner;
import com.sun.source.util.Trees;
import java.io.IOException;
import java.nio.charset.StandardCharsets;
import java.nio.file.Path;
import java.util.ArrayList;
import java.util.HashSet;
import java.util.List;
import java.util.Set;
import javax.lang.model.element.Modifier;
import javax.tools.JavaCompiler;
import javax.tools.StandardJavaFileManager;
import javax.tools.ToolProvider;

/** Walks through the program's own text: what of LANGUAGE.md's rules shows in it, and what it does without. */
final class LanguageTest extends TreeScanner<Void, Void> {
    private static final Checks CHECKS = new Checks();
    private static final Path PROGRAM = Path.of("src/main/java/BinRounds.java");
    private static final Set<String> THROWN = Set.of("IllegalArgumentException", "IndexOutOfBoundsException",
        "UnsupportedOperationException", "NoSuchElementException");
    private static final Set<String> IMPORTS = Set.of("java.util.ArrayList", "java.util.NoSuchElementException");
    private static final Set<String> OF_MATH = Set.of("Math.abs", "Math.min", "Math.max");
    private static final Set<String> OF_OBJECTS = Set.of("equals", "hashCode", "toString", "getClass");

    private final CompilationUnitTree program;
    private final SourcePositions positions;
    private final Set<String> ownClasses = new HashSet<>();
    private int methods = 0;
    private boolean isInConstructor = false;
    private Tree thrown = null;

    private LanguageTest(CompilationUnitTree program, SourcePositions positions) {
        this.program = program;
        this.positions = positions;
    }

    public static void main(String[] args) throws IOException {
        JavaCompiler compiler = ToolProvider.getSystemJavaCompiler();
        try (StandardJavaFileManager files = compiler.getStandardFileManager(null, null, StandardCharsets.UTF_8)) {
            JavacTask task = (JavacTask) compiler.getTask(null, files, null, null, null,
                files.getJavaFileObjects(PROGRAM));
            CompilationUnitTree program = task.parse().iterator().next();
            new LanguageTest(program, Trees.instance(task).getSourcePositions()).walk();
        }
        CHECKS.end("LanguageTest");
    }

    private void walk() throws IOException {
        CHECKS.tell(program.getPackage() == null, "the program has a package line");
        CHECKS.due("classes of the file's own level", program.getTypeDecls().size(), 1);
        CHECKS.tell(program.getSourceFile().getCharContent(true).chars().allMatch(c -> c >= 1 && c <= 127),
            "a written sign is above 127");
        collectClasses((ClassTree) program.getTypeDecls().get(0));
        CHECKS.tell(ownClasses.size() <= 12, "the classes are " + ownClasses);
        scan(program, null);
        CHECKS.tell(methods > 33, "only " + methods + " methods were seen");
    }

    private void collectClasses(ClassTree told) {
        ownClasses.add(told.getSimpleName().toString());
        for (Tree member : told.getMembers()) {
            if (member instanceof ClassTree) {
                collectClasses((ClassTree) member);
            }
        }
    }

    private long line(Tree told, boolean last) {
        long at = last ? positions.getEndPosition(program, told) : positions.getStartPosition(program, told);
        return program.getLineMap().getLineNumber(at);
    }

    private void tell(boolean isRight, int rule, Tree told) {
        CHECKS.tell(isRight, "rule " + rule + ", line " + line(told, false) + ": " + told);
    }

    // ---- rules 1, 2, 5, 11: classes, methods, fields ----

    @Override
    public Void visitClass(ClassTree told, Void none) {
        int fields = 0;
        for (Tree member : told.getMembers()) {
            CHECKS.tell(member.getKind() != Tree.Kind.BLOCK, "rule 5: a block of " + told.getSimpleName());
            if (member instanceof VariableTree) {
                boolean isStatic = ((VariableTree) member).getModifiers().getFlags().contains(Modifier.STATIC);
                fields += isStatic ? 0 : 1;
                tell(!isStatic || isConstant((VariableTree) member), 5, member);
            }
        }
        CHECKS.tell(told.getKind() == Tree.Kind.CLASS, "rule 2: " + told.getSimpleName() + " is no plain class");
        CHECKS.tell(fields <= 20, "rule 11: " + told.getSimpleName() + " has " + fields + " fields");
        return super.visitClass(told, none);
    }

    private static boolean isConstant(VariableTree told) {
        ExpressionTree first = told.getInitializer();
        return told.getModifiers().getFlags().contains(Modifier.FINAL) && told.getType() instanceof PrimitiveTypeTree
            && first != null && (first instanceof LiteralTree || first.getKind() == Tree.Kind.UNARY_MINUS);
    }

    @Override
    public Void visitMethod(MethodTree told, Void none) {
        methods++;
        tell(told.getParameters().size() <= 7, 11, told);
        tell(line(told, true) - line(told, false) < 60, 11, told);
        tell(!OF_OBJECTS.contains(told.getName().toString()), 6, told);
        isInConstructor = told.getReturnType() == null;
        super.visitMethod(told, none);
        isInConstructor = false;
        return null;
    }

    // ---- rules 3, 4: types and the library ----

    @Override
    public Void visitImport(ImportTree told, Void none) {
        tell(!told.isStatic() && IMPORTS.contains(told.getQualifiedIdentifier().toString()), 4, told);
        return null;
    }

    @Override
    public Void visitIdentifier(IdentifierTree told, Void none) {
        String name = told.getName().toString();
        boolean isType = name.length() > 1 && Character.isUpperCase(name.charAt(0))
            && Character.isLowerCase(name.charAt(1));
        tell(!isType || isKnownType(name), 4, told);
        return null;
    }

    private boolean isKnownType(String name) {
        return ownClasses.contains(name) || THROWN.contains(name) || name.equals("ArrayList") || name.equals("Math");
    }

    @Override
    public Void visitMemberSelect(MemberSelectTree told, Void none) {
        boolean isOfMath = told.getExpression().toString().equals("Math");
        tell(!isOfMath || OF_MATH.contains(told.toString()), 4, told);
        tell(!OF_OBJECTS.contains(told.getIdentifier().toString()), 6, told);
        return super.visitMemberSelect(told, none);
    }

    @Override
    public Void visitPrimitiveType(PrimitiveTypeTree told, Void none) {
        String name = told.toString();
        tell(!name.equals("float") && !name.equals("double"), 3, told);
        return null;
    }

    @Override
    public Void visitTypeCast(TypeCastTree told, Void none) {
        tell(told.getType() instanceof PrimitiveTypeTree, 6, told);
        return super.visitTypeCast(told, none);
    }

    // ---- rule 6: exceptions ----

    @Override
    public Void visitThrow(ThrowTree told, Void none) {
        tell(!isInConstructor && told.getExpression() instanceof NewClassTree, 6, told);
        thrown = told.getExpression();
        return super.visitThrow(told, none);
    }

    @Override
    public Void visitNewClass(NewClassTree told, Void none) {
        boolean isException = THROWN.contains(told.getIdentifier().toString());
        tell(told.getClassBody() == null && isException == (told == thrown), 6, told);
        if (isException) {
            List<ExpressionTree> given = new ArrayList<>(told.getArguments());
            tell(given.isEmpty() || given.size() == 1 && given.get(0).getKind() == Tree.Kind.STRING_LITERAL, 6, told);
        }
        return super.visitNewClass(told, none);
    }

    // ---- what the program does without ----

    @Override
    public Void visitTry(TryTree told, Void none) {
        tell(false, 6, told);
        return null;
    }

    @Override
    public Void visitAssert(AssertTree told, Void none) {
        tell(false, 6, told);
        return null;
    }

    @Override
    public Void visitSynchronized(SynchronizedTree told, Void none) {
        tell(false, 6, told);
        return null;
    }

    @Override
    public Void visitInstanceOf(InstanceOfTree told, Void none) {
        tell(false, 6, told);
        return null;
    }

    @Override
    public Void visitLambdaExpression(LambdaExpressionTree told, Void none) {
        tell(false, 2, told);
        return null;
    }

    @Override
    public Void visitMemberReference(MemberReferenceTree told, Void none) {
        tell(false, 2, told);
        return null;
    }
}
