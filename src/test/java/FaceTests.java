import java.io.IOException;
import java.nio.file.Files;
import java.nio.file.Path;
import java.util.ArrayList;
import java.util.List;
import java.util.regex.Matcher;
import java.util.regex.Pattern;

/** The public face as the document writes it: the same lines, in the same order, under the same headings. */
public final class FaceTests {
    private static final int MEMBERS = 41;

    private final Check check = new Check();
    private final String document;
    private final String code;

    public static void main(String[] args) throws IOException {
        FaceTests t = new FaceTests();
        t.lines();
        t.headings();
        t.constants();
        t.check.end();
    }

    private FaceTests() throws IOException {
        document = Files.readString(Path.of("../shared/DOC.md"));
        code = Files.readString(Path.of("src/main/java/MarkedByNext.java"));
    }

    private void lines() {
        check.holds("public and final", code.contains("\npublic final class MarkedByNext {\n"));
        List<String> told = publicLines(between(document, "```java\n", "```"));
        List<String> written = publicLines(code);
        check.due("members that the document tells", told.size(), MEMBERS);
        check.due("members that the class has", written.size(), told.size());
        for (int i = 0; i < Math.min(told.size(), written.size()); i++) {
            check.holds("member " + i + ": " + told.get(i) + " / " + written.get(i), told.get(i).equals(written.get(i)));
        }
    }

    /** What stands in four blanks and is public, without the ; or { that ends it. */
    private static List<String> publicLines(String text) {
        List<String> all = new ArrayList<>();
        Matcher m = Pattern.compile("(?m)^ {4}(public .*?)(;| \\{)$").matcher(text);
        while (m.find()) {
            all.add(m.group(1));
        }
        return all;
    }

    private void headings() {
        Matcher m = Pattern.compile("Ahead of the calls (.*) the interface says: (---- .*)\\.").matcher(document);
        int groups = 0;
        int calls = 0;
        while (m.find()) {
            groups++;
            String part = between(code, "    // " + m.group(2) + "\n", "    // ----");
            StringBuilder names = new StringBuilder();
            for (String line : publicLines(part)) {
                names.append(names.length() == 0 ? "`" : ", `").append(line.replaceAll("public \\w+ (\\w+)\\(.*", "$1"));
                names.append('`');
                calls++;
            }
            check.holds(m.group(2) + " of " + m.group(1) + " / " + names, m.group(1).equals(names.toString()));
        }
        check.due("groups", groups, 5);
        check.due("calls under headings", calls, MEMBERS - 2);
    }

    private void constants() {
        check.due("NONE", MarkedByNext.NONE, -1);
        check.due("BAD", MarkedByNext.BAD, -2);
        check.due("NOT", MarkedByNext.NOT, -3);
        check.due("FULL", MarkedByNext.FULL, -4);
    }

    /** From behind the one mark to the other, or to the end. */
    private static String between(String text, String from, String to) {
        int start = text.indexOf(from);
        if (start < 0) {
            return "";
        }
        int end = text.indexOf(to, start + from.length());
        return text.substring(start + from.length(), end < 0 ? text.length() : end);
    }
}
