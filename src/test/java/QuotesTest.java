import java.io.IOException;
import java.nio.file.Files;
import java.nio.file.Path;
import java.util.ArrayList;
import java.util.List;
import java.util.Map;
import java.util.TreeMap;
import java.util.regex.Matcher;
import java.util.regex.Pattern;
import java.util.stream.Stream;

/** Every word of the Terms and of each promise is quoted by a test of edges, and every quote is the document's own. */
public final class QuotesTest {
    private static final int PROMISES = 44;
    private static final Pattern QUOTE = Pattern.compile("Desk\\.sentence\\((\\d+), (\"[^\"]*\"(?:\\s*\\+\\s*\"[^\"]*\")*)\\);");

    private static int wrong = 0;

    private static void fail(String what) {
        wrong++;
        System.out.println(what);
    }

    private static String oneLine(String text) {
        return text.replaceAll("\\s+", " ").trim();
    }

    /** The Terms, and how long an object is used, are 0; a promise begins behind the form of its call. */
    private static Map<Integer, String> sections(String document) {
        Map<Integer, String> sections = new TreeMap<>();
        int from = document.indexOf("## Terms");
        String terms = document.substring(from, document.indexOf("Ahead of the calls", from));
        int use = document.indexOf("An object is used");
        terms = document.substring(use, document.indexOf("\n", use) + 1) + terms;
        sections.put(0, oneLine(terms.replaceAll("## Terms|======== \\d|```(text)?", "")));
        Matcher m = Pattern.compile("## Promise (\\d+):[^\n]*\n\n`[^`]*`: ([^\n]*)\n").matcher(document);
        while (m.find()) {
            sections.put(Integer.parseInt(m.group(1)), oneLine(m.group(2)));
        }
        return sections;
    }

    private static void look(int promise, String quote, String section, boolean[] quoted) {
        int at = section.indexOf(quote);
        if (at < 0) {
            fail("promise " + promise + " has no words '" + quote + "'");
        }
        while (at >= 0) {
            for (int i = at; i < at + quote.length(); i++) {
                quoted[i] = true;
            }
            at = section.indexOf(quote, at + 1);
        }
    }

    private static List<Path> testsOfEdges() throws IOException {
        List<Path> files = new ArrayList<>();
        try (Stream<Path> all = Files.list(Path.of("src/test/java"))) {
            all.filter(p -> p.getFileName().toString().startsWith("Edges")).sorted().forEach(files::add);
        }
        return files;
    }

    private static String unquoted(String section, boolean[] quoted) {
        StringBuilder rest = new StringBuilder();
        for (int i = 0; i < section.length(); i++) {
            rest.append(quoted[i] ? ' ' : section.charAt(i));
        }
        return oneLine(rest.toString());
    }

    public static void main(String[] args) throws IOException {
        if (!Files.exists(Desk.DOCUMENT)) {
            System.out.println("no document to look the quotes up in");
            return;
        }
        Map<Integer, String> sections = sections(Desk.document());
        Map<Integer, boolean[]> quoted = new TreeMap<>();
        for (int promise = 0; promise <= PROMISES; promise++) {
            if (!sections.containsKey(promise)) {
                fail("the document has no promise " + promise);
                sections.put(promise, "");
            }
            quoted.put(promise, new boolean[sections.get(promise).length()]);
        }
        for (Path file : testsOfEdges()) {
            Matcher m = QUOTE.matcher(Files.readString(file));
            while (m.find()) {
                int promise = Integer.parseInt(m.group(1));
                String quote = oneLine(m.group(2).replaceAll("\"\\s*\\+\\s*\"", "").replace("\"", ""));
                look(promise, quote, sections.get(promise), quoted.get(promise));
            }
        }
        for (int promise = 0; promise <= PROMISES; promise++) {
            String rest = unquoted(sections.get(promise), quoted.get(promise));
            if (!rest.isEmpty()) {
                fail("no test of edges quotes, of promise " + promise + ": " + rest);
            }
        }
        System.out.println(wrong == 0 ? "every word is quoted" : wrong + " quotes are not as due");
        if (wrong != 0) {
            System.exit(1);
        }
    }
}
