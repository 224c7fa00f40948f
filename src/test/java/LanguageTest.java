import java.nio.charset.StandardCharsets;
import java.nio.file.Files;
import java.nio.file.Path;
import java.util.HashSet;
import java.util.Map;
import java.util.Set;
import java.util.TreeMap;
import java.util.TreeSet;
import java.util.regex.Matcher;
import java.util.regex.Pattern;

/** What of LANGUAGE.md can be seen from the letters of the program; it is run from the project's folder. */
public final class LanguageTest {
    private static final String SOURCE = "src/main/java/AskedTheOtherWayAbout.java";
    private static final String[] FORBIDDEN = {
        "\\b(throw|throws|try|catch|finally|synchronized|assert|volatile|native|record|enum|interface)\\b",
        "\\b(protected|package|float|double|Object|equals|hashCode|toString|System\\.(?!arraycopy))\\b",
        "->", "::", "@", "\\bstatic\\s*\\{", "\\bwhile\\s*\\(\\s*true", "\"\\s*\\+|\\+\\s*\"",
        "\\bimport\\b", "\\bArrays\\b",
        "\\bMath\\.(?!abs\\b|min\\b|max\\b)", "\\bInteger\\.(?!bitCount\\b)", "\\bLong\\b", "Exact\\b",
    };
    private static final Pattern HEAD = Pattern.compile("^( +)(?:public |private |static |final )*[\\w\\[\\]]+ (\\w+)"
            + "\\(([^)]*)\\) \\{$", Pattern.MULTILINE);
    private static final int MOST_PARAMETERS = 7;
    private static final int MOST_LINES = 60;
    private static final int DEEPEST = 8;
    private static final Pattern CALL = Pattern.compile("\\b(\\w+)\\(");

    public static void main(String[] args) throws Exception {
        Checks checks = new Checks();
        String source = Files.readString(Path.of(SOURCE), StandardCharsets.ISO_8859_1);
        checks.due("signs above 127", source.chars().filter(c -> c > 127).count(), 0);
        String code = bare(source);
        for (String forbidden : FORBIDDEN) {
            Matcher found = Pattern.compile(forbidden).matcher(code);
            checks.due("rule broken: " + forbidden, found.find() ? found.group() : "", "");
        }
        Map<String, String> methods = methods(checks, code);
        calls(checks, methods);
        // all that an object needs is made with it: a call makes nothing
        checks.due("'new' outside of fields", matches(code, "(?m)^(?! +(private )?final ).*\\bnew\\b"), 0);
        checks.end();
    }

    /** The source without comments, and with empty texts. */
    private static String bare(String source) {
        return source.replaceAll("(?s)/\\*.*?\\*/", "").replaceAll("//[^\n]*", "")
                .replaceAll("\"(?:[^\"\\\\\n]|\\\\.)*\"", "\"\"");
    }

    /** The methods by their names, each with what stands between its braces. */
    private static Map<String, String> methods(Checks checks, String code) {
        Map<String, String> bodies = new TreeMap<>();
        Matcher head = HEAD.matcher(code);
        while (head.find()) {
            int end = code.indexOf("\n" + head.group(1) + "}\n", head.end());
            long lines = code.substring(head.start(), end).lines().count();
            checks.due(head.group(2) + " is too long", lines > MOST_LINES ? lines : 0, 0);
            int parameters = head.group(3).isEmpty() ? 0 : head.group(3).split(",").length;
            checks.due(head.group(2) + " takes too many", parameters > MOST_PARAMETERS ? parameters : 0, 0);
            String twin = bodies.put(head.group(2), code.substring(head.end(), end));
            checks.due("two are named " + head.group(2), twin == null ? 0 : 1, 0);
        }
        checks.due("the methods are seen", bodies.size() > 100 ? 1 : 0, 1);
        return bodies;
    }

    /** How deep calls go, and that nothing calls itself but the bodies of ACTS. */
    private static void calls(Checks checks, Map<String, String> methods) {
        Map<String, Set<String>> called = new TreeMap<>();
        methods.forEach((name, body) -> {
            Set<String> names = new TreeSet<>();
            Matcher call = CALL.matcher(body);
            while (call.find()) {
                if (methods.containsKey(call.group(1))) names.add(call.group(1));
            }
            called.put(name, names);
        });
        Set<String> recursive = new TreeSet<>();
        for (String name : called.keySet()) {
            int depth = depth(called, name, new HashSet<>(), recursive);
            checks.due(name + " calls too deep", depth > DEEPEST ? depth : 0, 0);
        }
        checks.due("what calls itself", recursive.toString(), "[asksFrom, leansFrom, sumsFrom]");
    }

    /** Of calls that are no recursion; a method that calls itself, by way of others too, is put to the recursive ones. */
    private static int depth(Map<String, Set<String>> called, String name, Set<String> open, Set<String> recursive) {
        open.add(name);
        int deepest = 0;
        for (String next : called.get(name)) {
            if (open.contains(next)) {
                recursive.add(next);
            } else {
                deepest = Math.max(deepest, depth(called, next, open, recursive));
            }
        }
        open.remove(name);
        return deepest + 1;
    }

    private static int matches(String code, String pattern) {
        Matcher matcher = Pattern.compile(pattern).matcher(code);
        int found = 0;
        while (matcher.find()) found++;
        return found;
    }
}
