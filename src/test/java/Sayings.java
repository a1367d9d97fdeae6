import java.io.IOException;
import java.nio.file.Files;
import java.nio.file.Path;
import java.util.ArrayList;
import java.util.HashSet;
import java.util.LinkedHashMap;
import java.util.List;
import java.util.Map;
import java.util.Set;
import java.util.regex.Matcher;
import java.util.regex.Pattern;

/**
 * What the document says of boundary cases, and the rows that hold the class to it. It fails if words are tested that
 * do not stand in the document, if words are told without a row, or if a promise names a refusal that no row met.
 */
final class Sayings {
    private static final int PROMISES = 40;
    private static final int TABLE = 23, LUCK = 31, GET = 36, DIGEST = 40;

    private final Check check = new Check();
    private final String document;
    private final List<String> said = new ArrayList<>();
    private final Map<Integer, Set<Long>> met = new LinkedHashMap<>();
    private String words = "";
    private int rows = 0;

    Sayings() throws IOException {
        document = Files.readString(Path.of("../shared/DOC.md")).replaceAll("\\s+", " ");
    }

    void begin(String next) {
        endWords();
        words = next;
        rows = 0;
        said.add(next);
        check.holds("the document says: " + next, document.contains(next));
    }

    void due(int promise, String what, long got, long want) {
        rows++;
        met.computeIfAbsent(promise, p -> new HashSet<>()).add(want);
        check.due(promise + ": \"" + words + "\": " + what, got, want);
    }

    void end() {
        endWords();
        for (int promise = 1; promise <= PROMISES; promise++) {
            String section = section(promise);
            check.holds("promise " + promise + " has rows", met.containsKey(promise));
            check.holds("words of promise " + promise + " are tested", said.stream().anyMatch(section::contains));
            for (long refusal : refusalsNamed(promise, section)) {
                boolean isMet = met.getOrDefault(promise, Set.of()).contains(refusal);
                check.holds("promise " + promise + " has a row that is due " + refusal, isMet);
            }
        }
        check.end();
    }

    private void endWords() {
        check.holds("there are rows for: " + words, words.isEmpty() || rows > 0);
    }

    private String section(int promise) {
        String end = promise == PROMISES ? "## Not promised" : "## Promise " + (promise + 1) + ":";
        int from = document.indexOf("## Promise " + promise + ":");
        int to = document.indexOf(end);
        check.holds("there is a promise " + promise, from >= 0 && to > from);
        return from >= 0 && to > from ? document.substring(from, to) : "";
    }

    /** The answers by which a promise says no; table and digest only take NONE as a number that is asked with. */
    private static Set<Long> refusalsNamed(int promise, String section) {
        Set<Long> all = new HashSet<>();
        Matcher words = Pattern.compile("\\b(NONE|BAD|NOT|FULL|NULL|INDEX|CAST|STORE|SIZE)\\b").matcher(section);
        while (words.find()) {
            boolean isAsked = words.group().equals("NONE") && (promise == TABLE || promise == DIGEST);
            if (!isAsked) {
                all.add(answerOf(promise, words.group()));
            }
        }
        return all;
    }

    private static long answerOf(int promise, String word) {
        if (promise == GET) {
            return Integer.MIN_VALUE;
        }
        long least = promise == LUCK ? Long.MIN_VALUE : 0;
        long refusal = switch (word) {
            case "NONE" -> 1;
            case "BAD" -> 2;
            case "NOT" -> 3;
            case "FULL" -> 4;
            case "NULL" -> 11;
            case "INDEX" -> 12;
            case "CAST" -> 13;
            case "STORE" -> 14;
            default -> 15;
        };
        return least == 0 ? -refusal : least + refusal;
    }
}
