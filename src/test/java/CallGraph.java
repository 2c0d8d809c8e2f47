import java.util.ArrayList;
import java.util.HashMap;
import java.util.HashSet;
import java.util.List;
import java.util.Map;
import java.util.Set;

/** Who calls whom in the class, and how deep calls go that are no recursion. */
final class CallGraph {
  private final Map<String, Set<String>> calls = new HashMap<>();
  private final Map<String, Set<String>> reached = new HashMap<>();
  private final Map<String, List<String>> deepest = new HashMap<>();

  void add(Map<String, Set<String>> more) {
    for (Map.Entry<String, Set<String>> one : more.entrySet()) {
      Set<String> own = new HashSet<>();
      for (String called : one.getValue()) if (called.startsWith("TicketHall")) own.add(called);
      calls.put(one.getKey(), own);
    }
  }

  /** All that a method calls, and what they call, and so on. */
  private Set<String> reached(String method) {
    Set<String> found = reached.get(method);
    if (found != null) return found;
    found = new HashSet<>();
    List<String> left = new ArrayList<>(calls.getOrDefault(method, Set.of()));
    while (!left.isEmpty()) {
      String next = left.remove(left.size() - 1);
      if (found.add(next)) left.addAll(calls.getOrDefault(next, Set.of()));
    }
    reached.put(method, found);
    return found;
  }

  private boolean together(String one, String other) {
    return one.equals(other) || reached(one).contains(other) && reached(other).contains(one);
  }

  List<String> recursive() {
    List<String> found = new ArrayList<>();
    for (String method : calls.keySet()) if (reached(method).contains(method)) found.add(method);
    return found;
  }

  /** The longest row of calls from a method on; methods that call one another count as one. */
  private List<String> from(String method) {
    List<String> known = deepest.get(method);
    if (known != null) return known;
    List<String> best = List.of();
    Set<String> inside = new HashSet<>(reached(method));
    inside.removeIf(m -> !together(method, m));
    inside.add(method);
    for (String one : inside)
      for (String next : calls.getOrDefault(one, Set.of()))
        if (!inside.contains(next) && from(next).size() > best.size()) best = from(next);
    List<String> row = new ArrayList<>(List.of(method));
    row.addAll(best);
    deepest.put(method, row);
    return row;
  }

  List<String> longest() {
    List<String> best = List.of();
    for (String method : calls.keySet()) if (from(method).size() > best.size()) best = from(method);
    return best;
  }
}
