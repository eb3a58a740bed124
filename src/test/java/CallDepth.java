import com.sun.source.tree.MethodInvocationTree;
import com.sun.source.tree.MethodTree;
import com.sun.source.tree.NewClassTree;
import com.sun.source.util.JavacTask;
import com.sun.source.util.TreePathScanner;
import com.sun.source.util.Trees;
import java.io.File;
import java.io.IOException;
import java.util.ArrayDeque;
import java.util.ArrayList;
import java.util.Deque;
import java.util.HashMap;
import java.util.HashSet;
import java.util.LinkedHashMap;
import java.util.LinkedHashSet;
import java.util.List;
import java.util.Map;
import java.util.Set;
import javax.lang.model.element.Element;
import javax.tools.JavaCompiler;
import javax.tools.StandardJavaFileManager;
import javax.tools.ToolProvider;

/** Calls that are no recursion go at most eight deep; methods that call one another count as one. */
public final class CallDepth {
    private static final int MOST = 8;
    private static final Map<String, Set<String>> calls = new LinkedHashMap<>();
    private static final Map<String, Set<String>> reached = new HashMap<>();
    private static final Map<String, List<String>> longest = new HashMap<>();

    private static String nameOf(Element element) {
        return element.getEnclosingElement() + "." + element;
    }

    private static final class Reader extends TreePathScanner<Void, Trees> {
        private final Deque<String> open = new ArrayDeque<>();

        @Override
        public Void visitMethod(MethodTree tree, Trees trees) {
            open.push(nameOf(trees.getElement(getCurrentPath())));
            calls.computeIfAbsent(open.peek(), k -> new LinkedHashSet<>());
            super.visitMethod(tree, trees);
            open.pop();
            return null;
        }

        @Override
        public Void visitMethodInvocation(MethodInvocationTree tree, Trees trees) {
            note(trees.getElement(getCurrentPath()));
            return super.visitMethodInvocation(tree, trees);
        }

        @Override
        public Void visitNewClass(NewClassTree tree, Trees trees) {
            note(trees.getElement(getCurrentPath()));
            return super.visitNewClass(tree, trees);
        }

        private void note(Element element) {
            if (element != null && !open.isEmpty() && nameOf(element).startsWith("RankTrain")) {
                calls.get(open.peek()).add(nameOf(element));
            }
        }
    }

    private static Set<String> reachedFrom(String method) {
        Set<String> all = reached.get(method);
        if (all == null) {
            all = new HashSet<>();
            Deque<String> next = new ArrayDeque<>(calls.getOrDefault(method, Set.of()));
            while (!next.isEmpty()) {
                String one = next.pop();
                if (all.add(one)) {
                    next.addAll(calls.getOrDefault(one, Set.of()));
                }
            }
            reached.put(method, all);
        }
        return all;
    }

    private static boolean areOne(String one, String other) {
        return one.equals(other) || reachedFrom(one).contains(other) && reachedFrom(other).contains(one);
    }

    private static List<String> longestFrom(String method) {
        List<String> found = longest.get(method);
        if (found != null) {
            return found;
        }
        List<String> best = List.of();
        for (String member : calls.keySet()) {
            if (areOne(method, member)) {
                for (String called : calls.get(member)) {
                    if (!areOne(method, called) && longestFrom(called).size() > best.size()) {
                        best = longestFrom(called);
                    }
                }
            }
        }
        List<String> chain = new ArrayList<>();
        chain.add(method);
        chain.addAll(best);
        longest.put(method, chain);
        return chain;
    }

    public static void main(String[] args) throws IOException {
        JavaCompiler compiler = ToolProvider.getSystemJavaCompiler();
        int wrong = 0;
        try (StandardJavaFileManager files = compiler.getStandardFileManager(null, null, null)) {
            JavacTask task = (JavacTask) compiler.getTask(null, files, null, List.of("-proc:none"), null,
                files.getJavaFileObjects(new File("src/main/java/RankTrain.java")));
            Trees trees = Trees.instance(task);
            var units = task.parse();
            task.analyze();
            for (var unit : units) {
                new Reader().scan(unit, trees);
            }
        }
        int deepest = 0;
        for (String method : calls.keySet()) {
            List<String> chain = longestFrom(method);
            deepest = Math.max(deepest, chain.size());
            if (chain.size() > MOST) {
                wrong++;
                System.out.println(String.join(" -> ", chain));
            }
        }
        System.out.println(calls.size() + " methods, whose calls go " + deepest + " deep");
        if (wrong > 0 || calls.size() < 100) {
            System.exit(1);
        }
    }
}
