import com.sun.source.tree.AnnotationTree;
import com.sun.source.tree.AssertTree;
import com.sun.source.tree.BlockTree;
import com.sun.source.tree.CatchTree;
import com.sun.source.tree.ClassTree;
import com.sun.source.tree.CompilationUnitTree;
import com.sun.source.tree.DoWhileLoopTree;
import com.sun.source.tree.IdentifierTree;
import com.sun.source.tree.LambdaExpressionTree;
import com.sun.source.tree.LiteralTree;
import com.sun.source.tree.MemberReferenceTree;
import com.sun.source.tree.MemberSelectTree;
import com.sun.source.tree.MethodTree;
import com.sun.source.tree.NewArrayTree;
import com.sun.source.tree.NewClassTree;
import com.sun.source.tree.SynchronizedTree;
import com.sun.source.tree.ThrowTree;
import com.sun.source.tree.Tree;
import com.sun.source.tree.TryTree;
import com.sun.source.tree.VariableTree;
import com.sun.source.tree.WhileLoopTree;
import com.sun.source.util.JavacTask;
import com.sun.source.util.SourcePositions;
import com.sun.source.util.TreeScanner;
import com.sun.source.util.Trees;
import java.io.File;
import java.util.ArrayList;
import java.util.HashSet;
import java.util.List;
import java.util.Set;
import javax.lang.model.element.Modifier;
import javax.tools.JavaCompiler;
import javax.tools.StandardJavaFileManager;
import javax.tools.ToolProvider;

/** What of LANGUAGE.md can be seen from the program's text; the rule's number stands before each finding. */
public final class LanguageCheck extends TreeScanner<Void, Void> {
    private static final String PROGRAM = "src/main/java/BowBend.java";
    private static final String FACE =
        "<init>() write(int,long) wipe() fault() stave() wood(int,int,int,int) grown(int,int) knot(int,boolean)"
        + " about(int,int) give(int) limb(int) follow() weight(int,boolean) strain(int,int) draw(int) broken()"
        + " scrape(int,int) steam(int) hinge(int) stiff(int) even(int) next(int,int) best(int,int,int)"
        + " bestAt(int,int,int,int) form(int,int,int) shape(int,int) pace(int,int,boolean) wet(int,int,boolean)"
        + " lost(int,int,int,int,boolean,boolean) see(int,int) off(int) tooStiff() slips(int,int,int,int,boolean)"
        + " good(int,int,int,boolean) keep(int) again(int) count(int)";
    private static final String CONSTANTS = "UNKNOWN BAD LATE FULL NONE";
    private static final Set<String> LIBRARY = Set.of("Math.min", "Math.max", "System.arraycopy");

    private final Set<String> face = new HashSet<>(List.of(FACE.split(" ")));
    private final Set<String> faceNames = new HashSet<>();
    private final Set<String> constants = new HashSet<>(List.of(CONSTANTS.split(" ")));
    private final List<ClassTree> open = new ArrayList<>();
    private final Check check = new Check();
    private final CompilationUnitTree unit;
    private final SourcePositions positions;
    private MethodTree method;
    private int classes;

    private LanguageCheck(CompilationUnitTree unit, SourcePositions positions) {
        this.unit = unit;
        this.positions = positions;
        face.forEach(row -> faceNames.add(row.substring(0, row.indexOf('('))));
        faceNames.remove("<init>");
        check.about(PROGRAM);
    }

    public static void main(String[] args) throws Exception {
        JavaCompiler compiler = ToolProvider.getSystemJavaCompiler();
        try (StandardJavaFileManager files = compiler.getStandardFileManager(null, null, null)) {
            JavacTask task = (JavacTask) compiler.getTask(null, files, null, List.of("-proc:none"), null,
                files.getJavaFileObjects(new File(PROGRAM)));
            CompilationUnitTree unit = task.parse().iterator().next();
            LanguageCheck scan = new LanguageCheck(unit, Trees.instance(task).getSourcePositions());
            scan.wholeFile();
            scan.check.close("LanguageCheck");
        }
    }

    private void wholeFile() {
        holds("1: no package", unit, unit.getPackageName() == null);
        holds("4: no import", unit, unit.getImports().isEmpty());
        holds("1: one class", unit, unit.getTypeDecls().size() == 1);
        scan(unit, null);
        holds("11: some twelve classes", unit, classes <= 12);
        holds("1: the face is missing " + face, unit, face.isEmpty());
        holds("1: the constants are missing " + constants, unit, constants.isEmpty());
    }

    private void holds(String rule, Tree at, boolean is) {
        long line = unit.getLineMap().getLineNumber(Math.max(0, positions.getStartPosition(unit, at)));
        check.due("line " + line + ": rule " + rule, is ? 1 : 0, 1);
    }

    private void never(String what, Tree at) {
        holds(what, at, false);
    }

    private long linesOf(Tree at) {
        return unit.getLineMap().getLineNumber(positions.getEndPosition(unit, at))
            - unit.getLineMap().getLineNumber(positions.getStartPosition(unit, at)) + 1;
    }

    @Override
    public Void visitClass(ClassTree tree, Void none) {
        classes++;
        Set<Modifier> flags = tree.getModifiers().getFlags();
        holds("2: no local class", tree, method == null);
        if (open.isEmpty()) {
            holds("1: public and final", tree, flags.equals(Set.of(Modifier.PUBLIC, Modifier.FINAL)));
        } else {
            boolean hidden = !flags.contains(Modifier.PUBLIC) && !flags.contains(Modifier.PROTECTED);
            holds("2: static, and private or package-visible", tree, hidden && flags.contains(Modifier.STATIC));
        }
        int fields = 0;
        for (Tree member : tree.getMembers()) {
            holds("5: no initialiser block", member, !(member instanceof BlockTree));
            boolean isField = member instanceof VariableTree;
            fields += isField && !((VariableTree) member).getModifiers().getFlags().contains(Modifier.STATIC) ? 1 : 0;
            if (isField) {
                field((VariableTree) member);
            }
        }
        holds("11: some twenty fields", tree, fields <= 20);
        open.add(tree);
        super.visitClass(tree, none);
        open.remove(open.size() - 1);
        return null;
    }

    private void field(VariableTree tree) {
        Set<Modifier> flags = tree.getModifiers().getFlags();
        holds("5: static fields are final", tree, !flags.contains(Modifier.STATIC) || flags.contains(Modifier.FINAL));
        if (open.isEmpty()) {
            boolean isFace = flags.contains(Modifier.PUBLIC) && constants.remove(tree.getName().toString());
            holds("1: private beside the face", tree, isFace || flags.contains(Modifier.PRIVATE));
        }
    }

    @Override
    public Void visitMethod(MethodTree tree, Void none) {
        StringBuilder row = new StringBuilder(tree.getName()).append('(');
        for (VariableTree parameter : tree.getParameters()) {
            row.append(row.charAt(row.length() - 1) == '(' ? "" : ",").append(parameter.getType());
        }
        boolean isPublic = tree.getModifiers().getFlags().contains(Modifier.PUBLIC);
        if (open.size() == 1) {
            boolean isPrivate = tree.getModifiers().getFlags().contains(Modifier.PRIVATE);
            holds("1: private beside the face: " + row, tree, isPublic ? face.remove(row + ")") : isPrivate);
        }
        boolean isFace = open.size() == 1 && isPublic;
        holds("1: a name of the face", tree, isFace || !faceNames.contains(tree.getName().toString()));
        holds("11: seven parameters", tree, tree.getParameters().size() <= 7);
        holds("11: some sixty lines", tree, linesOf(tree) <= 60);
        method = tree;
        super.visitMethod(tree, none);
        method = null;
        return null;
    }

    private boolean inConstructor() {
        return method != null && method.getName().contentEquals("<init>");
    }

    @Override
    public Void visitNewClass(NewClassTree tree, Void none) {
        holds("2: no anonymous class", tree, tree.getClassBody() == null);
        holds("12: objects are made in constructors alone", tree, inConstructor());
        return super.visitNewClass(tree, none);
    }

    @Override
    public Void visitNewArray(NewArrayTree tree, Void none) {
        holds("12: rows are made in constructors alone", tree, inConstructor());
        return super.visitNewArray(tree, none);
    }

    @Override
    public Void visitMemberSelect(MemberSelectTree tree, Void none) {
        String name = tree.toString();
        if (tree.getExpression() instanceof IdentifierTree && Character.isUpperCase(name.charAt(0))) {
            holds("4: the library: " + name, tree, LIBRARY.contains(name));
        }
        return super.visitMemberSelect(tree, none);
    }

    @Override
    public Void visitLiteral(LiteralTree tree, Void none) {
        holds("10: texts are not joined by +", tree, tree.getKind() != Tree.Kind.STRING_LITERAL);
        return super.visitLiteral(tree, none);
    }

    @Override
    public Void visitThrow(ThrowTree tree, Void none) {
        never("6: no throw", tree);
        return super.visitThrow(tree, none);
    }

    @Override
    public Void visitTry(TryTree tree, Void none) {
        never("6: no try", tree);
        return super.visitTry(tree, none);
    }

    @Override
    public Void visitCatch(CatchTree tree, Void none) {
        never("6: no catch", tree);
        return super.visitCatch(tree, none);
    }

    @Override
    public Void visitAssert(AssertTree tree, Void none) {
        never("6: no assert", tree);
        return super.visitAssert(tree, none);
    }

    @Override
    public Void visitSynchronized(SynchronizedTree tree, Void none) {
        never("6: no synchronized", tree);
        return super.visitSynchronized(tree, none);
    }

    @Override
    public Void visitLambdaExpression(LambdaExpressionTree tree, Void none) {
        never("2: no lambda", tree);
        return super.visitLambdaExpression(tree, none);
    }

    @Override
    public Void visitMemberReference(MemberReferenceTree tree, Void none) {
        never("2: no method reference", tree);
        return super.visitMemberReference(tree, none);
    }

    @Override
    public Void visitAnnotation(AnnotationTree tree, Void none) {
        never("4: no annotation", tree);
        return super.visitAnnotation(tree, none);
    }

    @Override
    public Void visitWhileLoop(WhileLoopTree tree, Void none) {
        never("9: a for with a bound shows its end", tree);
        return super.visitWhileLoop(tree, none);
    }

    @Override
    public Void visitDoWhileLoop(DoWhileLoopTree tree, Void none) {
        never("9: a for with a bound shows its end", tree);
        return super.visitDoWhileLoop(tree, none);
    }
}
