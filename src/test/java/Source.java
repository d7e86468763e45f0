import java.io.IOException;
import java.nio.charset.StandardCharsets;
import java.nio.file.Files;
import java.nio.file.Path;
import java.util.ArrayList;
import java.util.List;
import java.util.Map;
import java.util.Set;
import java.util.TreeMap;
import java.util.TreeSet;
import java.util.regex.MatchResult;
import java.util.regex.Matcher;
import java.util.regex.Pattern;

/** The class as text, without its comments, and the methods and constructors that stand in it. */
final class Source {
    /** A method ends where its closing brace stands as far in as its beginning. */
    private static final Pattern METHOD = Pattern.compile(
        "(?m)^( +)((?:(?:public|private|static|final) )*)(?:([\\w\\[\\]]+) )?(\\w+)"
        + "\\(([^)]*)\\) \\{\n((?s).*?)^\\1\\}$");
    private static final Pattern CALLED = Pattern.compile("\\b(\\w+)\\(");

    /** One without a type that it answers is a constructor. */
    record Part(String name, String words, String type, int parameters, String body) {
        boolean isConstructor() {
            return type == null;
        }

        int lines() {
            return body.split("\n").length + 2;
        }

        boolean calls(String other) {
            return CALLED.matcher(body).results().anyMatch(call -> call.group(1).equals(other));
        }
    }

    final String code;
    final List<Part> parts = new ArrayList<>();

    Source(Path file) throws IOException {
        String text = Files.readString(file, StandardCharsets.ISO_8859_1);
        code = text.replaceAll("(?s)/\\*.*?\\*/", "").replaceAll("//[^\n]*", "");
        Matcher found = METHOD.matcher(code);
        while (found.find()) {
            String parameters = found.group(5);
            int many = parameters.isBlank() ? 0 : parameters.split(",").length;
            parts.add(new Part(found.group(4), found.group(2), found.group(3), many, found.group(6)));
        }
    }

    List<Part> methods() {
        return parts.stream().filter(part -> !part.isConstructor()).toList();
    }

    /** All places that a pattern fits. */
    Set<String> all(String pattern) {
        Set<String> found = new TreeSet<>();
        Pattern.compile(pattern).matcher(code).results().map(MatchResult::group).forEach(found::add);
        return found;
    }

    /** Which methods of its own each calls; this needs that no two bear one name. */
    Map<String, Set<String>> callees() {
        Map<String, Set<String>> callees = new TreeMap<>();
        for (Part part : methods()) {
            Set<String> called = new TreeSet<>();
            methods().stream().map(Part::name).filter(part::calls).forEach(called::add);
            callees.put(part.name(), called);
        }
        return callees;
    }
}
