import java.util.ArrayList;
import java.util.LinkedHashMap;
import java.util.LinkedHashSet;
import java.util.List;
import java.util.Map;
import java.util.Set;
import javax.lang.model.element.ExecutableElement;

/** Which method calls which, and whether calls go deeper than rule 11 of LANGUAGE.md leaves. */
final class CallDepth {
    private static final int MOST_DEEP = 8;

    private final Map<ExecutableElement, Set<ExecutableElement>> calls = new LinkedHashMap<>();

    void addMethod(ExecutableElement method) {
        calls.computeIfAbsent(method, key -> new LinkedHashSet<>());
    }

    void addCall(ExecutableElement caller, ExecutableElement called) {
        addMethod(caller);
        calls.get(caller).add(called);
    }

    /** Each way of calls that is too deep, both ends counted; a recursion is too deep by itself. */
    List<String> faults() {
        List<String> all = new ArrayList<>();
        for (ExecutableElement method : calls.keySet()) {
            follow(method, new ArrayList<>(), all);
        }
        return all;
    }

    private void follow(ExecutableElement method, List<ExecutableElement> way, List<String> all) {
        way.add(method);
        if (way.size() > MOST_DEEP) {
            all.add("calls too deep: " + way);
        } else {
            for (ExecutableElement called : calls.getOrDefault(method, Set.of())) {
                follow(called, way, all);
            }
        }
        way.remove(way.size() - 1);
    }
}
