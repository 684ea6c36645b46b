import java.util.HashMap;
import java.util.HashSet;
import java.util.Map;
import java.util.Set;
import java.util.regex.Matcher;
import java.util.regex.Pattern;

/** How deep the calls of a class go, seen from its text: each method is known by its name alone. */
final class CallDepth {
    private static final Pattern HEAD = Pattern.compile("(?m)^( {4}| {8})(?:[a-z]+ )+(\\w+)\\([^;\\n]*\\) \\{$");
    private static final Pattern CALL = Pattern.compile("(\\b[A-Z]\\w*[a-z]\\w*\\.)?\\b([a-z]\\w*)\\(");
    // Deeper than any text without recursion can be here; a method that calls itself comes to it.
    private static final int TOO_DEEP = 300;

    private final Map<String, String> bodies = new HashMap<>();
    private final Set<String> twice = new HashSet<>();

    /** The text is without comments, and laid out as this project's is. */
    CallDepth(String code) {
        Matcher head = HEAD.matcher(code);
        while (head.find()) {
            int end = code.indexOf("\n" + head.group(1) + "}", head.end());
            if (bodies.put(head.group(2), code.substring(head.end(), end)) != null) {
                twice.add(head.group(2));
            }
        }
    }

    int namesTwice() {
        return twice.size();
    }

    /** How many calls stand open at once, this one and one of the library counted; 0 when there is none such. */
    int of(String method) {
        return bodies.containsKey(method) ? depth(method, 1) : 0;
    }

    private int depth(String method, int open) {
        if (open >= TOO_DEEP) {
            return open;
        }
        int deepest = open;
        Matcher call = CALL.matcher(bodies.get(method));
        while (call.find() && deepest < TOO_DEEP) {
            if (call.group(1) != null) {
                deepest = Math.max(deepest, open + 1);
            } else if (bodies.containsKey(call.group(2))) {
                deepest = Math.max(deepest, depth(call.group(2), open + 1));
            }
        }
        return deepest;
    }
}
