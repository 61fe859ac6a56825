import com.sun.source.tree.BinaryTree;
import com.sun.source.tree.BlockTree;
import com.sun.source.tree.ClassTree;
import com.sun.source.tree.CompilationUnitTree;
import com.sun.source.tree.DoWhileLoopTree;
import com.sun.source.tree.ExpressionTree;
import com.sun.source.tree.ForLoopTree;
import com.sun.source.tree.MethodTree;
import com.sun.source.tree.NewClassTree;
import com.sun.source.tree.Tree;
import com.sun.source.tree.TypeCastTree;
import com.sun.source.tree.VariableTree;
import com.sun.source.tree.WhileLoopTree;
import com.sun.source.util.TreePath;
import java.io.IOException;
import java.nio.file.Files;
import java.nio.file.Path;
import java.util.EnumSet;
import java.util.Set;
import java.util.TreeSet;
import javax.lang.model.element.Element;
import javax.lang.model.element.ElementKind;
import javax.lang.model.element.ExecutableElement;
import javax.lang.model.element.Modifier;
import javax.lang.model.element.VariableElement;
import javax.lang.model.type.TypeMirror;

/** The rules of LANGUAGE.md that the compiler's own reading of the class can tell. */
final class LanguageTest {
    private static final Due DUE = new Due("LanguageTest");
    private static final Set<Tree.Kind> NEVER = EnumSet.of(Tree.Kind.LAMBDA_EXPRESSION, Tree.Kind.MEMBER_REFERENCE,
        Tree.Kind.THROW, Tree.Kind.TRY, Tree.Kind.CATCH, Tree.Kind.SYNCHRONIZED, Tree.Kind.ASSERT, Tree.Kind.IMPORT,
        Tree.Kind.PACKAGE, Tree.Kind.ANNOTATION, Tree.Kind.FLOAT_LITERAL, Tree.Kind.DOUBLE_LITERAL, Tree.Kind.YIELD);
    /** Of the library's list only what the class needs; Object's constructor is called by every other. */
    private static final Set<String> LIBRARY = Set.of("java.lang.String.length()", "java.lang.String.charAt(int)",
        "java.lang.Math.max(int,int)", "java.lang.Math.max(long,long)", "java.lang.Math.min(int,int)",
        "java.lang.Math.min(long,long)", "java.lang.Math.abs(long)", "java.lang.Math.floorDiv(long,long)",
        "java.lang.Object.Object()");
    private static final Set<String> CONSTANTS = Set.of("int", "long", "boolean", "char", "java.lang.String");
    /** An act is kept, so it is made when it comes; all else is made with the object. */
    private static final Set<String> MAKERS = Set.of("<init>", "addReport", "addStrike");

    public static void main(String[] args) throws IOException {
        Source source = Source.read();
        names(source);
        for (TreePath path : source.pieces) {
            String at = "line " + source.line(path);
            DUE.due("language 2, 6: " + path.getLeaf().getKind() + ", " + at, NEVER.contains(path.getLeaf().getKind()), false);
            classes(source, path, at);
            fields(source, path, at);
            types(source, path, at);
            loops(path, at);
            texts(source, path, at);
            made(source, path, at);
        }
        library(source);
        methods(source);
        letters();
        DUE.finish();
    }

    private static void names(Source source) {
        Set<String> told = new TreeSet<>();
        for (ExecutableElement method : source.methods.keySet()) {
            if (method.getModifiers().contains(Modifier.PUBLIC) && method.getKind() == ElementKind.METHOD) {
                told.add(method.getSimpleName().toString());
            }
        }
        DUE.due("language 1: the public names", told.size(), 23);
        for (ExecutableElement method : source.methods.keySet()) {
            boolean isPublic = method.getModifiers().contains(Modifier.PUBLIC);
            boolean bears = told.contains(method.getSimpleName().toString());
            DUE.due("language 1: the name of " + method, !isPublic && bears, false);
        }
    }

    private static void classes(Source source, TreePath path, String at) {
        Tree tree = path.getLeaf();
        Tree around = path.getParentPath().getLeaf();
        if (tree instanceof ClassTree) {
            boolean isOutermost = around instanceof CompilationUnitTree;
            Set<Modifier> modifiers = source.element(path).getModifiers();
            DUE.due("language 2: a class in a class, " + at, isOutermost || around instanceof ClassTree, true);
            DUE.due("language 2: static, " + at, isOutermost || modifiers.contains(Modifier.STATIC), true);
            long own = ((ClassTree) tree).getMembers().stream()
                .filter(m -> m instanceof VariableTree)
                .filter(m -> !((VariableTree) m).getModifiers().getFlags().contains(Modifier.STATIC)).count();
            DUE.due("language 11: some twenty fields, " + at, own <= 20, true);
        }
        if (tree instanceof NewClassTree) {
            DUE.due("language 2: no class without a name, " + at, ((NewClassTree) tree).getClassBody() == null, true);
        }
        DUE.due("language 5: no block in a class, " + at, tree instanceof BlockTree && around instanceof ClassTree, false);
    }

    private static void fields(Source source, TreePath path, String at) {
        Element element = path.getLeaf() instanceof VariableTree ? source.element(path) : null;
        if (element == null || element.getKind() != ElementKind.FIELD || !element.getModifiers().contains(Modifier.STATIC)) {
            return;
        }
        DUE.due("language 5: final: " + element, element.getModifiers().contains(Modifier.FINAL), true);
        DUE.due("language 5: a constant: " + element, ((VariableElement) element).getConstantValue() != null, true);
        DUE.due("language 5: of its type: " + element, CONSTANTS.contains(element.asType().toString()), true);
    }

    private static void types(Source source, TreePath path, String at) {
        if (path.getLeaf() instanceof VariableTree) {
            TypeMirror type = source.element(path).asType();
            DUE.due("language 3: " + type + ", " + at, isOfTheLanguage(type.toString()), true);
        }
        if (path.getLeaf() instanceof MethodTree) {
            TypeMirror type = ((ExecutableElement) source.element(path)).getReturnType();
            DUE.due("language 3: " + type + ", " + at, isOfTheLanguage(type.toString()), true);
        }
        if (path.getLeaf() instanceof TypeCastTree) {
            String type = ((TypeCastTree) path.getLeaf()).getType().toString();
            DUE.due("language 6: a cast of numbers, " + at, type.equals("int") || type.equals("long"), true);
        }
    }

    /** No doubles and no lists are needed, so none are let through. */
    private static boolean isOfTheLanguage(String type) {
        return type.matches("void|int|long|boolean|char|java\\.lang\\.String|(int|long)\\[\\]|ThreeDays\\.\\w+(\\[\\])?");
    }

    private static void loops(TreePath path, String at) {
        Tree tree = path.getLeaf();
        ExpressionTree until = null;
        if (tree instanceof ForLoopTree) {
            until = ((ForLoopTree) tree).getCondition();
        } else if (tree instanceof WhileLoopTree) {
            until = ((WhileLoopTree) tree).getCondition();
        } else if (tree instanceof DoWhileLoopTree) {
            until = ((DoWhileLoopTree) tree).getCondition();
        } else {
            return;
        }
        boolean hasEnd = until != null && until.toString().matches(".*(<|>|!=).*");
        DUE.due("language 9: an end that can be seen, " + at, hasEnd, true);
    }

    private static void texts(Source source, TreePath path, String at) {
        if (!(path.getLeaf() instanceof BinaryTree)) {
            return;
        }
        BinaryTree tree = (BinaryTree) path.getLeaf();
        String left = String.valueOf(source.type(path, tree.getLeftOperand()));
        String right = String.valueOf(source.type(path, tree.getRightOperand()));
        boolean isText = left.startsWith("java.lang.") || right.startsWith("java.lang.");
        DUE.due("language 6, 10: no joined and no compared texts, " + at, isText, false);
    }

    private static void made(Source source, TreePath path, String at) {
        Tree.Kind kind = path.getLeaf().getKind();
        if (kind == Tree.Kind.NEW_CLASS || kind == Tree.Kind.NEW_ARRAY) {
            ExecutableElement method = source.methodAround(path);
            boolean isRight = method == null || MAKERS.contains(method.getSimpleName().toString());
            DUE.due("language 12: made with the object, or an act, " + at, isRight, true);
        }
    }

    private static void library(Source source) {
        for (ExecutableElement method : source.methods.keySet()) {
            for (ExecutableElement called : source.calls.get(method)) {
                String name = called.getEnclosingElement() + "." + called;
                DUE.due("language 4: " + name, source.isOwn(called) || LIBRARY.contains(name), true);
            }
        }
    }

    private static void methods(Source source) {
        for (ExecutableElement method : source.methods.keySet()) {
            DUE.due("language 11: at most seven: " + method, method.getParameters().size() <= 7, true);
            DUE.due("language 11: short: " + method, source.lines(source.methods.get(method)) <= 60, true);
            DUE.due("language 11: eight deep: " + method, source.depth(method, new TreeSet<>()) <= 8, true);
            if (source.callsItself(method)) {
                boolean isPrivate = method.getModifiers().contains(Modifier.PRIVATE);
                boolean hasDepth = method.getParameters().stream().anyMatch(p -> p.getSimpleName().contentEquals("open"));
                DUE.due("language 8: private: " + method, isPrivate, true);
                DUE.due("language 8: the depth is carried: " + method, hasDepth, true);
            }
        }
    }

    private static void letters() throws IOException {
        String text = Files.readString(Path.of("src/main/java/ThreeDays.java"));
        DUE.due("ascii alone", text.chars().allMatch(c -> c == '\n' || c >= ' ' && c < 127), true);
    }
}
