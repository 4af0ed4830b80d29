import java.io.IOException;
import java.nio.file.Files;
import java.nio.file.Path;
import java.util.ArrayList;
import java.util.List;
import java.util.regex.Matcher;
import java.util.regex.Pattern;

/** The document as the tests of boundary cases quote it, and what of its boundary cases none of them quotes. */
final class Sentences {
    private static final Path DOC = Path.of("../shared/DOC.md");
    private static final int PROMISES = 39;
    /** How the document's words name a boundary case. */
    private static final Pattern BOUNDARY = Pattern.compile("[0-9]+ to [0-9]+|0 or 1|up to|n to [0-9]+|at most|at least"
        + "|NONE|-1\\b|-20|without|WITHOUT|REFUSED|wrap|cuts?\\b|by 0\\b|Exception:|another wh|twice|too many|too early"
        + "|7th|of these the|of alike ones|of one the|last counts|told ahead|empty|stays|nothing more|above 0"
        + "|0 or less|0: |\\(0 for|16 WORKS|1 or more|0 ahead|on MINUTE 240|one SLEEPER, too|for others|\\(to 240\\)");

    /** 0: the terms; above: a promise. */
    private final String[] parts = new String[PROMISES + 1];
    private final boolean[][] quoted = new boolean[PROMISES + 1][];

    Sentences() {
        String text = "";
        try {
            text = Files.readString(DOC);
        } catch (IOException e) {
            System.out.println(DOC + " is not there: quotes are not looked at");
        }
        for (int part = 0; part <= PROMISES; part++) {
            parts[part] = cut(text, part);
            quoted[part] = new boolean[parts[part].length()];
        }
    }

    private static String cut(String text, int part) {
        String head = part == 0 ? "\n## Terms" : "\n## Promise " + part + ": ";
        int from = text.indexOf(head);
        if (from < 0) {
            return "";
        }
        int to = text.indexOf("\n## ", from + 1);
        String own = text.substring(text.indexOf('\n', from + 1), to < 0 ? text.length() : to);
        return own.replaceFirst("`[^`]*`: ", "").replaceAll("\\s+", " ");
    }

    /** Whether this stands there, word by word. */
    boolean quote(int part, String words) {
        int from = parts[part].indexOf(words);
        if (from < 0) {
            return parts[part].isEmpty();
        }
        for (int i = from; i < from + words.length(); i++) {
            quoted[part][i] = true;
        }
        return true;
    }

    List<String> unquoted() {
        List<String> left = new ArrayList<>();
        for (int part = 0; part <= PROMISES; part++) {
            Matcher m = BOUNDARY.matcher(parts[part]);
            while (m.find()) {
                if (!quoted[part][m.start()] || !quoted[part][m.end() - 1]) {
                    int from = Math.max(0, m.start() - 40);
                    int to = Math.min(parts[part].length(), m.end() + 20);
                    left.add("part " + part + ": .." + parts[part].substring(from, to) + "..");
                }
            }
        }
        return left;
    }
}
