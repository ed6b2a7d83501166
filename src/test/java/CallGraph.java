import java.util.LinkedHashMap;
import java.util.LinkedHashSet;
import java.util.Map;
import java.util.Set;
import java.util.TreeSet;
import javax.lang.model.element.ExecutableElement;

/** Which of a program's methods call which, to see how deep the calls go and whether one comes back. */
final class CallGraph {
    private final Map<ExecutableElement, Set<ExecutableElement>> calls = new LinkedHashMap<>();

    void method(ExecutableElement one) {
        calls.computeIfAbsent(one, key -> new LinkedHashSet<>());
    }

    /** A call that stands in no method, but at a field, is nobody's. */
    void call(ExecutableElement from, ExecutableElement to) {
        if (from != null) {
            method(from);
            method(to);
            calls.get(from).add(to);
        }
    }

    Set<String> cycles() {
        Set<String> found = new TreeSet<>();
        for (ExecutableElement one : calls.keySet()) {
            if (reached(one).contains(one)) {
                found.add(one.getEnclosingElement() + "." + one);
            }
        }
        return found;
    }

    private Set<ExecutableElement> reached(ExecutableElement from) {
        Set<ExecutableElement> seen = new LinkedHashSet<>(calls.get(from));
        int before;
        do {
            before = seen.size();
            for (ExecutableElement one : Set.copyOf(seen)) {
                seen.addAll(calls.get(one));
            }
        } while (seen.size() > before);
        return seen;
    }

    /** How many calls stand open at once at most; only where there are no cycles. */
    int deepest() {
        Map<ExecutableElement, Integer> known = new LinkedHashMap<>();
        int most = 0;
        for (ExecutableElement one : calls.keySet()) {
            most = Math.max(most, depth(one, known));
        }
        return most;
    }

    private int depth(ExecutableElement one, Map<ExecutableElement, Integer> known) {
        if (!known.containsKey(one)) {
            int below = 0;
            for (ExecutableElement called : calls.get(one)) {
                below = Math.max(below, depth(called, known));
            }
            known.put(one, below + 1);
        }
        return known.get(one);
    }
}
