import java.util.ArrayList;
import java.util.HashMap;
import java.util.List;
import java.util.Map;
import java.util.Set;
import java.util.TreeMap;
import java.util.TreeSet;
import javax.lang.model.element.Element;
import javax.lang.model.element.ElementKind;
import javax.lang.model.element.ExecutableElement;
import javax.lang.model.element.TypeElement;
import javax.lang.model.util.ElementFilter;
import javax.lang.model.util.Elements;

/** Which method calls which; one of the library calls nothing. */
final class CallGraph {
    private final Map<String, Set<String>> calls = new TreeMap<>();
    private final List<ExecutableElement> methods = new ArrayList<>();
    private final Map<String, Set<String>> over = new HashMap<>();
    private final Map<String, List<String>> longest = new HashMap<>();
    private final Set<String> open = new TreeSet<>();
    private String circle = "";

    private static String name(Element method) {
        return method.getEnclosingElement() + "." + method;
    }

    private Set<String> from(String caller) {
        return calls.computeIfAbsent(caller, some -> new TreeSet<>());
    }

    /** A call of a method may be one of each that overrides it. */
    void learn(TypeElement type, Elements elements) {
        for (ExecutableElement method : ElementFilter.methodsIn(type.getEnclosedElements())) {
            for (ExecutableElement other : methods) {
                TypeElement inner = (TypeElement) method.getEnclosingElement();
                if (elements.overrides(method, other, inner)) {
                    over.computeIfAbsent(name(other), some -> new TreeSet<>()).add(name(method));
                }
            }
            methods.add(method);
        }
    }

    void add(Element caller, ExecutableElement called) {
        if (caller.getKind() == ElementKind.CLASS) {
            for (ExecutableElement made : ElementFilter.constructorsIn(caller.getEnclosedElements())) {
                from(name(made)).add(name(called));
            }
        } else {
            from(name(caller)).add(name(called));
        }
    }

    /** The methods that stand open at once where most do, the first one first. */
    List<String> deepest() {
        List<String> deepest = List.of();
        for (String caller : List.copyOf(calls.keySet())) {
            List<String> way = way(caller);
            deepest = way.size() > deepest.size() ? way : deepest;
        }
        return deepest;
    }

    String circle() {
        deepest();
        return circle;
    }

    private List<String> way(String method) {
        if (longest.containsKey(method)) {
            return longest.get(method);
        }
        if (!open.add(method)) {
            circle = method;
            return List.of();
        }
        List<String> below = List.of();
        for (String called : from(method)) {
            List<String> way = way(called);
            below = way.size() > below.size() ? way : below;
        }
        List<String> way = new ArrayList<>();
        way.add(method);
        way.addAll(below);
        for (String other : over.getOrDefault(method, Set.of())) {
            List<String> instead = way(other);
            way = instead.size() > way.size() ? instead : way;
        }
        open.remove(method);
        longest.put(method, way);
        return way;
    }
}
