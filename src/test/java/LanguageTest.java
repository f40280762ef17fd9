import java.io.IOException;
import java.lang.reflect.Field;
import java.lang.reflect.Modifier;
import java.nio.file.Files;
import java.nio.file.Path;
import java.util.ArrayDeque;
import java.util.Deque;
import java.util.Map;
import java.util.TreeMap;
import java.util.regex.Matcher;
import java.util.regex.Pattern;

/** What of LANGUAGE.md can be seen in the text of the class; the numbers are those of its rules. */
public final class LanguageTest {
    private static final String[] LEFT_OUT = {
        "import", "package", "throw", "throws", "try", "catch", "finally", "synchronized", "assert", "protected",
        "volatile", "native", "instanceof", "->", "::", "\\w+Exact", "equals", "hashCode", "toString", "double",
        "float", "Object", "System", "Random", "Thread"};
    private static final int LONGEST_METHOD = 60;
    private static final int MOST_PARAMETERS = 7;
    private static final int DEEPEST_CALLS = 8;
    private static final int MOST_CLASSES = 12;
    private static final int MOST_FIELDS = 20;

    private final Check check = new Check();
    private final String code;
    /** The bodies of methods and constructors by their names. */
    private final Map<String, String> bodies = new TreeMap<>();

    private LanguageTest(String text) {
        code = text.replaceAll("(?s)/\\*.*?\\*/", "").replaceAll("//.*", "");
    }

    public static void main(String[] args) throws IOException {
        LanguageTest test = new LanguageTest(Files.readString(Path.of("src/main/java/BlockMover.java")));
        test.wordsThatAreLeftOut();
        test.classes();
        test.methods();
        test.library();
        test.indexesAndDivisors();
        test.loops();
        test.objectsMade();
        test.depthOfCalls();
        test.check.end();
    }

    private long found(String pattern) {
        return Pattern.compile(pattern).matcher(code).results().count();
    }

    private void wordsThatAreLeftOut() {
        for (String word : LEFT_OUT) {
            check.due(word, found(word.matches("\\W+") ? word : "\\b" + word + "\\b"), 0);
        }
    }

    /** Rules 1, 2, 5 and 11. */
    private void classes() {
        Class<?>[] inside = BlockMover.class.getDeclaredClasses();
        check.due("too many classes", inside.length + 1 > MOST_CLASSES ? 1 : 0, 0);
        check.due("classes of its own are all told", found("\\bclass\\b"), inside.length + 1);
        fields(BlockMover.class);
        for (Class<?> one : inside) {
            check.due(one + " is static", Modifier.isStatic(one.getModifiers()) ? 1 : 0, 1);
            check.due(one + " is public", Modifier.isPublic(one.getModifiers()) ? 1 : 0, 0);
            fields(one);
        }
    }

    private void fields(Class<?> holder) {
        int ofObjects = 0;
        for (Field f : holder.getDeclaredFields()) {
            boolean isStatic = Modifier.isStatic(f.getModifiers());
            ofObjects += isStatic ? 0 : 1;
            check.due(f + " is static", isStatic && !Modifier.isFinal(f.getModifiers()) ? 1 : 0, 0);
            check.due(f + " is no constant", isStatic && f.getType() != int.class ? 1 : 0, 0);
        }
        check.due("too many fields in " + holder, ofObjects > MOST_FIELDS ? 1 : 0, 0);
    }

    /** Rule 11. */
    private void methods() {
        Matcher head = Pattern.compile("(?m)^( +)(?:[\\w\\[\\]]+ )*(\\w+)\\(([^()]*)\\) \\{$").matcher(code);
        while (head.find()) {
            String name = head.group(2);
            if (name.matches("if|for|switch|while")) {
                continue;
            }
            String body = code.substring(head.end(), code.indexOf("\n" + head.group(1) + "}", head.end()));
            check.due("too long: " + name, body.lines().count() > LONGEST_METHOD ? 1 : 0, 0);
            check.due("parameters of " + name, head.group(3).split(",").length > MOST_PARAMETERS ? 1 : 0, 0);
            check.due("two methods " + name, bodies.put(name, body) == null ? 0 : 1, 0);
        }
        check.due("methods are found", bodies.size() > 60 ? 1 : 0, 1);
    }

    /** Rule 4. */
    private void library() {
        check.due("calls of the library", found("\\b[A-Z]\\w*\\.\\w+\\("), found("\\b(Integer|Long|Math)\\.\\w+\\("));
        check.due("casts", found("\\(\\w+\\) [\\w(]"), found("\\((int|long)\\) [\\w(]"));
    }

    /** Rule 7: there is one array, and what looks at its indexes are the methods that use it. */
    private void indexesAndDivisors() {
        check.due("arrays outside Disk", code.substring(0, code.indexOf("class Disk")).indexOf('['), -1);
        check.due("uses of it", found("\\w\\["), found("words\\[(at|ROOT \\* INODE_WORDS \\+ KIND)\\]") + found("long\\[\\]?"));
        check.due("divisors", found("[/%]"), found("[/%] ENTRY_BASE;"));
    }

    /** Rule 9: a counter against a bound, in the loop's own line. */
    private void loops() {
        check.due("loops of another form", found("\\b(while|do)\\b"), 0);
        check.due("loops", found("\\bfor \\("), found("for \\(int \\w+ = [^;]+; \\w+ (<|>=) [^;]+; \\w+(\\+\\+|--)\\)"));
    }

    /** Rule 12: calls make nothing, so that no run of them can fill the room. */
    private void objectsMade() {
        long inConstructors = 0;
        for (String name : new String[] {"BlockMover", "Disk"}) {
            inConstructors += Pattern.compile("\\bnew\\b").matcher(bodies.get(name)).results().count();
        }
        check.due("objects made outside constructors", found("\\bnew\\b"), inConstructors);
        check.due("texts", found("\""), 0);
    }

    /** Rule 11; a method that stands open already is recursion, which rule 8 looks at. */
    private void depthOfCalls() {
        for (String name : bodies.keySet()) {
            Deque<String> open = new ArrayDeque<>();
            check.due("calls too deep from " + name, depth(name, open) > DEEPEST_CALLS ? 1 : 0, 0);
        }
    }

    private int depth(String name, Deque<String> open) {
        if (open.contains(name)) {
            return 0;
        }
        open.push(name);
        int deepest = 0;
        Matcher call = Pattern.compile("(\\w+)\\(").matcher(bodies.get(name));
        while (call.find()) {
            if (bodies.containsKey(call.group(1))) {
                deepest = Math.max(deepest, depth(call.group(1), open));
            }
        }
        open.pop();
        return deepest + 1;
    }
}
