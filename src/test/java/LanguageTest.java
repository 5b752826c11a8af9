import com.sun.source.tree.ArrayAccessTree;
import com.sun.source.tree.AssertTree;
import com.sun.source.tree.BinaryTree;
import com.sun.source.tree.ClassTree;
import com.sun.source.tree.CompilationUnitTree;
import com.sun.source.tree.InstanceOfTree;
import com.sun.source.tree.LambdaExpressionTree;
import com.sun.source.tree.MemberReferenceTree;
import com.sun.source.tree.MethodInvocationTree;
import com.sun.source.tree.MethodTree;
import com.sun.source.tree.NewArrayTree;
import com.sun.source.tree.NewClassTree;
import com.sun.source.tree.SynchronizedTree;
import com.sun.source.tree.ThrowTree;
import com.sun.source.tree.Tree;
import com.sun.source.tree.TryTree;
import com.sun.source.tree.TypeCastTree;
import com.sun.source.tree.VariableTree;
import com.sun.source.util.JavacTask;
import com.sun.source.util.TreePathScanner;
import com.sun.source.util.Trees;
import java.io.IOException;
import java.nio.file.Files;
import java.nio.file.Path;
import java.util.ArrayList;
import java.util.HashMap;
import java.util.List;
import java.util.Map;
import java.util.Set;
import java.util.TreeSet;
import java.util.regex.Matcher;
import java.util.regex.Pattern;
import javax.lang.model.element.Element;
import javax.lang.model.element.ElementKind;
import javax.lang.model.element.Modifier;
import javax.tools.JavaCompiler;
import javax.tools.StandardJavaFileManager;
import javax.tools.ToolProvider;

/** What of ../shared/LANGUAGE.md can be read off the source: the face, the words, the sizes, the calls. */
public final class LanguageTest {
    private static final Check CHECK = new Check("LanguageTest");
    private static final Set<String> LIBRARY = Set.of("java.lang.Math.max(int,int)", "java.lang.Math.min(int,int)",
            "java.lang.Math.abs(int)", "java.lang.Math.abs(long)", "java.lang.Integer.bitCount(int)",
            "java.lang.String.length()", "java.lang.String.charAt(int)");

    /** Of each method the methods of the same file that it calls, and its own size. */
    private static final class Reading extends TreePathScanner<Void, Void> {
        private final Trees trees;
        private final CompilationUnitTree unit;
        private final Map<Element, Set<Element>> calls = new HashMap<>();
        private final List<String> publicFace = new ArrayList<>();
        private final List<MethodTree> hidden = new ArrayList<>();
        private Element method;
        private int classes = 0;

        Reading(Trees trees, CompilationUnitTree unit) {
            this.trees = trees;
            this.unit = unit;
        }

        private String at(Tree tree) {
            long start = trees.getSourcePositions().getStartPosition(unit, tree);
            return "line " + unit.getLineMap().getLineNumber(start);
        }

        private void not(Tree tree, String what) {
            CHECK.holds(what + " at " + at(tree), false);
        }

        private long lines(Tree tree) {
            long start = trees.getSourcePositions().getStartPosition(unit, tree);
            long end = trees.getSourcePositions().getEndPosition(unit, tree);
            return unit.getLineMap().getLineNumber(end) - unit.getLineMap().getLineNumber(start) + 1;
        }

        private boolean inRow() {
            String name = method == null ? "" : method.getEnclosingElement().getSimpleName().toString();
            return name.equals("IntRow") || name.equals("LongRow");
        }

        @Override
        public Void visitClass(ClassTree tree, Void none) {
            classes++;
            boolean top = getCurrentPath().getParentPath().getLeaf() == unit;
            Set<Modifier> modifiers = tree.getModifiers().getFlags();
            int fields = 0;
            for (Tree member : tree.getMembers()) {
                boolean open = false;
                if (member instanceof VariableTree field) {
                    Set<Modifier> flags = field.getModifiers().getFlags();
                    open = !flags.contains(Modifier.PRIVATE) && top;
                    fields += flags.contains(Modifier.STATIC) ? 0 : 1;
                    CHECK.holds("a static field that is not final, " + field.getName(),
                            !flags.contains(Modifier.STATIC) || flags.contains(Modifier.FINAL));
                    if (open) {
                        publicFace.add(flags.contains(Modifier.PUBLIC) ? plain(field.toString()) : "not public: " + field);
                    }
                } else if (member instanceof MethodTree inside) {
                    Set<Modifier> flags = inside.getModifiers().getFlags();
                    open = !flags.contains(Modifier.PRIVATE) && top;
                    if (open) {
                        String head = inside.toString();
                        publicFace.add(plain(head.substring(0, head.indexOf('{'))));
                    } else {
                        hidden.add(inside);
                    }
                }
            }
            CHECK.holds("fields of " + tree.getSimpleName(), fields <= 20);
            if (!top) {
                CHECK.holds("static " + tree.getSimpleName(), modifiers.contains(Modifier.STATIC));
                CHECK.holds("closed " + tree.getSimpleName(), !modifiers.contains(Modifier.PUBLIC)
                        && !modifiers.contains(Modifier.PROTECTED));
                CHECK.holds("named " + tree.getSimpleName(), tree.getSimpleName().length() > 0);
            } else {
                CHECK.holds("public and final", modifiers.equals(Set.of(Modifier.PUBLIC, Modifier.FINAL)));
            }
            return super.visitClass(tree, none);
        }

        @Override
        public Void visitMethod(MethodTree tree, Void none) {
            Element before = method;
            method = trees.getElement(getCurrentPath());
            calls.putIfAbsent(method, new java.util.HashSet<>());
            CHECK.holds("parameters of " + tree.getName(), tree.getParameters().size() <= 7);
            CHECK.holds("lines of " + tree.getName(), lines(tree) <= 60);
            super.visitMethod(tree, none);
            method = before;
            return null;
        }

        private void called(Element element, Tree tree) {
            if (element == null) {
                not(tree, "a call that can't be told");
            } else if (trees.getTree(element) != null) {
                calls.computeIfAbsent(method, key -> new java.util.HashSet<>()).add(element);
            } else {
                String name = element.getEnclosingElement() + "." + element;
                CHECK.holds("the library's " + name + " at " + at(tree), LIBRARY.contains(name)
                        || name.equals("java.lang.Object.Object()"));
            }
        }

        @Override
        public Void visitMethodInvocation(MethodInvocationTree tree, Void none) {
            // the compiler's own super() has no place in the source
            if (!tree.getMethodSelect().toString().equals("super")) {
                called(trees.getElement(getCurrentPath()), tree);
            }
            return super.visitMethodInvocation(tree, none);
        }

        @Override
        public Void visitNewClass(NewClassTree tree, Void none) {
            Element element = trees.getElement(getCurrentPath());
            boolean made = method == null || method.getKind() == ElementKind.CONSTRUCTOR;
            CHECK.holds("an object made by a call at " + at(tree), made);
            CHECK.holds("a class of its own at " + at(tree), tree.getClassBody() == null);
            if (method != null && element != null && trees.getTree(element) != null) {
                calls.get(method).add(element);
            }
            return super.visitNewClass(tree, none);
        }

        @Override
        public Void visitNewArray(NewArrayTree tree, Void none) {
            CHECK.holds("an array made outside of a row at " + at(tree), inRow() && method.getKind() == ElementKind.CONSTRUCTOR);
            return super.visitNewArray(tree, none);
        }

        @Override
        public Void visitArrayAccess(ArrayAccessTree tree, Void none) {
            CHECK.holds("an index outside of a row at " + at(tree), inRow());
            return super.visitArrayAccess(tree, none);
        }

        @Override
        public Void visitBinary(BinaryTree tree, Void none) {
            if (tree.getKind() == Tree.Kind.PLUS) {
                CHECK.holds("texts joined at " + at(tree), !tree.getLeftOperand().toString().startsWith("\"")
                        && !tree.getRightOperand().toString().startsWith("\""));
            }
            return super.visitBinary(tree, none);
        }

        @Override
        public Void visitTypeCast(TypeCastTree tree, Void none) {
            CHECK.holds("a cast at " + at(tree), Set.of("int", "long").contains(tree.getType().toString()));
            return super.visitTypeCast(tree, none);
        }

        @Override
        public Void visitThrow(ThrowTree tree, Void none) {
            not(tree, "throw");
            return null;
        }

        @Override
        public Void visitTry(TryTree tree, Void none) {
            not(tree, "try");
            return null;
        }

        @Override
        public Void visitSynchronized(SynchronizedTree tree, Void none) {
            not(tree, "synchronized");
            return null;
        }

        @Override
        public Void visitAssert(AssertTree tree, Void none) {
            not(tree, "assert");
            return null;
        }

        @Override
        public Void visitLambdaExpression(LambdaExpressionTree tree, Void none) {
            not(tree, "a lambda");
            return null;
        }

        @Override
        public Void visitMemberReference(MemberReferenceTree tree, Void none) {
            not(tree, "a method reference");
            return null;
        }

        @Override
        public Void visitInstanceOf(InstanceOfTree tree, Void none) {
            not(tree, "instanceof");
            return null;
        }

        /** How many calls stand open at once, at most, from a method on; 1000 if it calls itself. */
        int depth(Element from, Map<Element, Integer> known) {
            if (known.containsKey(from)) {
                return known.get(from);
            }
            known.put(from, 1000);
            int deepest = 0;
            for (Element next : calls.getOrDefault(from, Set.of())) {
                deepest = Math.max(deepest, depth(next, known));
            }
            known.put(from, Math.min(1000, deepest + 1));
            return known.get(from);
        }
    }

    private static String plain(String text) {
        String one = text.replaceAll("\\s+", " ").replaceAll("/\\*.*?\\*/", "").trim();
        return one.replaceAll("<init>", "TroupeSums").replaceAll("\\s*=\\s*", " = ").replaceAll(";$", "").trim();
    }

    /** The members that the document's face lists. */
    private static Set<String> faceOf(Path document) throws IOException {
        Matcher block = Pattern.compile("public final class TroupeSums \\{\n(.*?)\n\\}", Pattern.DOTALL).matcher(Files.readString(document));
        Set<String> face = new TreeSet<>();
        if (block.find()) {
            for (String line : block.group(1).split("\n")) {
                face.add(plain(line));
            }
        }
        return face;
    }

    public static void main(String[] args) throws IOException {
        Path project = Path.of(System.getProperty("project", "."));
        Path source = project.resolve("src/main/java/TroupeSums.java");
        JavaCompiler compiler = ToolProvider.getSystemJavaCompiler();
        try (StandardJavaFileManager files = compiler.getStandardFileManager(null, null, null)) {
            JavacTask task = (JavacTask) compiler.getTask(null, files, null, List.of("-proc:none", "-implicit:none"), null,
                    files.getJavaFileObjects(source));
            CompilationUnitTree unit = task.parse().iterator().next();
            task.analyze();
            CHECK.same("imports", unit.getImports().size(), 0);
            CHECK.same("package lines", unit.getPackage() == null ? 0 : 1, 0);
            CHECK.same("outer classes", unit.getTypeDecls().size(), 1);
            Reading reading = new Reading(Trees.instance(task), unit);
            reading.scan(unit, null);
            CHECK.holds("classes: " + reading.classes, reading.classes <= 12);
            Set<String> due = faceOf(project.resolve("../shared/DOC.md"));
            Set<String> got = new TreeSet<>(reading.publicFace);
            CHECK.holds("the face is " + got + ", due is " + due, got.equals(due) && due.size() == 48);
            for (MethodTree hidden : reading.hidden) {
                String name = hidden.getName().toString();
                boolean taken = due.stream().anyMatch(member -> member.contains(" " + name + "("));
                CHECK.holds("a hidden method with a public one's name, " + name, !taken);
            }
            Map<Element, Integer> known = new HashMap<>();
            int deepest = 0;
            for (Element method : reading.calls.keySet()) {
                if (method != null) {
                    int depth = reading.depth(method, known);
                    deepest = Math.max(deepest, depth);
                    CHECK.holds("calls from " + method + " stand " + depth + " deep", depth <= 8);
                }
            }
            System.out.println("LanguageTest: calls stand at most " + deepest + " deep");
        }
        CHECK.finish();
    }
}
