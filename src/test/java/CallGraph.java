import java.util.ArrayList;
import java.util.HashSet;
import java.util.LinkedHashMap;
import java.util.List;
import java.util.Map;
import java.util.Set;
import java.util.TreeSet;
import javax.lang.model.element.Element;

/** Which method of a program calls which other one, and where objects are made. A class stands for its constructors. */
final class CallGraph {

    private static final int DEEPEST = 8;

    private final Map<Element, Set<Element>> calls = new LinkedHashMap<>();
    private final Set<Element> calledInLoops = new HashSet<>();
    private final Set<Element> makers = new HashSet<>();
    private final List<String> complaints = new ArrayList<>();

    void add(Element caller, Element called, boolean inLoop) {
        calls.computeIfAbsent(caller, one -> new HashSet<>()).add(called);
        if (inLoop) {
            calledInLoops.add(called);
        }
    }

    void makes(Element maker, boolean inLoop) {
        makers.add(maker);
        if (inLoop) {
            complaints.add("rule 12: " + maker + " makes something in a loop");
        }
    }

    /** Rule 8 (no recursion, as the program has none), rule 11 (how deep calls go), rule 12 (what loops make). */
    List<String> complaints() {
        TreeSet<String> found = new TreeSet<>(complaints);
        for (Element start : calls.keySet()) {
            if (reached(start).contains(start)) {
                found.add("rule 8: " + start + " calls itself");
            }
        }
        if (found.isEmpty()) {
            calls.keySet().stream().filter(start -> depth(start) > DEEPEST)
                    .forEach(start -> found.add("rule 11: calls go " + depth(start) + " deep from " + start));
        }
        for (Element called : calledInLoops) {
            Set<Element> all = reached(called);
            all.add(called);
            all.stream().filter(makers::contains)
                    .forEach(maker -> found.add("rule 12: " + maker + ", called in a loop, makes something"));
        }
        return new ArrayList<>(found);
    }

    private Set<Element> reached(Element start) {
        Set<Element> reached = new HashSet<>();
        List<Element> open = new ArrayList<>(List.of(start));
        for (int i = 0; i < open.size(); i++) {
            for (Element next : calls.getOrDefault(open.get(i), Set.of())) {
                if (reached.add(next)) {
                    open.add(next);
                }
            }
        }
        return reached;
    }

    private int depth(Element start) {
        int deepest = 0;
        for (Element next : calls.getOrDefault(start, Set.of())) {
            deepest = Math.max(deepest, depth(next));
        }
        return deepest + 1;
    }
}
