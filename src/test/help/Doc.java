import java.io.IOException;
import java.io.UncheckedIOException;
import java.nio.file.Files;
import java.nio.file.Path;
import java.util.ArrayList;
import java.util.LinkedHashMap;
import java.util.List;
import java.util.Map;
import java.util.regex.Matcher;
import java.util.regex.Pattern;

/** The document, cut into what it says of each method, and into the parts of its terms; white space counts as one blank. */
final class Doc {
    /** What stands behind the signature of a method, up to the next one; and the parts, by "part 0" and so on. */
    private static final Map<String, String> SECTIONS = new LinkedHashMap<>();
    /** The names of the parameters of each method, in their order. */
    static final Map<String, List<String>> PARAMETERS = new LinkedHashMap<>();
    /** Which exceptions each method throws, in the order of its clauses. */
    static final Map<String, List<String>> THROWN = new LinkedHashMap<>();

    static {
        try {
            read(Files.readString(Path.of("../shared/DOC.md")));
        } catch (IOException e) {
            throw new UncheckedIOException(e);
        }
    }

    private Doc() {
    }

    private static void read(String doc) {
        String face = doc.substring(doc.indexOf("```java"), doc.indexOf("## Terms"));
        Matcher m = Pattern.compile("public (?:int|boolean) (\\w+)\\(([^)]*)\\)(?: throws ([\\w, ]+))?;").matcher(face);
        while (m.find()) {
            List<String> names = new ArrayList<>();
            for (String argument : m.group(2).split(",")) {
                if (!argument.isBlank()) {
                    names.add(argument.trim().split(" ")[1]);
                }
            }
            PARAMETERS.put(m.group(1), names);
            THROWN.put(m.group(1), m.group(3) == null ? List.of() : List.of(m.group(3).split(", ")));
        }
        String terms = doc.substring(doc.indexOf("## Terms"), doc.indexOf("The constants:"));
        cut(terms, Pattern.compile("(?m)^(?:### )?(\\d+) [A-Z].*$"), "part ");
        SECTIONS.put("part all", flat(terms.substring(0, terms.indexOf("### 0"))));
        String promises = doc.substring(doc.indexOf("## Promise 1:"), doc.indexOf("## Not promised"));
        cut(promises.replaceAll("(?m)^## Promise.*$", ""), Pattern.compile("(?m)^`(?:int|boolean) (\\w+)\\(.*`:"), "");
    }

    private static void cut(String text, Pattern heads, String prefix) {
        Matcher m = heads.matcher(text);
        String name = null;
        int from = 0;
        while (m.find()) {
            if (name != null) {
                SECTIONS.put(name, flat(text.substring(from, m.start())));
            }
            name = prefix + m.group(1);
            from = m.end();
        }
        SECTIONS.put(name, flat(text.substring(from)));
    }

    private static String flat(String text) {
        return text.replaceAll("\\s+", " ").trim();
    }

    static String section(String name) {
        return SECTIONS.getOrDefault(name, "");
    }

    static Iterable<String> sections() {
        return SECTIONS.keySet();
    }

    static boolean says(String name, String words) {
        return section(name).contains(flat(words));
    }

    /** The numbers that the document names where it tells of an argument of a method: of "1 to 99" 1 and 99. */
    static List<Integer> numbersOf(String method, String argument) {
        List<Integer> out = new ArrayList<>();
        Matcher line = Pattern.compile("- `" + argument + "`: (.*?)(?= - `| Returns | Throws |$)").matcher(section(method));
        if (line.find()) {
            Matcher number = Pattern.compile("\\d+").matcher(line.group(1));
            while (number.find()) {
                out.add(Integer.parseInt(number.group()));
            }
        }
        return out;
    }

    /** The clause of a method by which it throws an exception; without it the empty text. */
    static String clause(String method, String exception) {
        Matcher m = Pattern.compile("Throws `" + exception + "` (.*?)(?= Throws `|$)").matcher(section(method));
        return m.find() ? m.group(1) : "";
    }
}
