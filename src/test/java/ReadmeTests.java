import java.io.IOException;
import java.nio.file.Files;
import java.nio.file.Path;
import java.util.Set;
import java.util.TreeSet;
import java.util.regex.Matcher;
import java.util.regex.Pattern;

/** Runs the lines of README.md's example, and compares each answer with the one that it tells. */
public final class ReadmeTests extends Checks {
    private static final Pattern TEXT = Pattern.compile("text\\(rows, \"(\\w+)\"\\);");
    private static final Pattern CALL = Pattern.compile("rows\\.(\\w+)\\(([-0-9, ]*)\\); +// (-?\\d+): .+");
    private static final int CALLS_OF_THE_FACE_WITH_ANSWERS = 14;

    public static void main(String[] args) throws IOException {
        String readme = Files.readString(Path.of("README.md"));
        String start = "AuthorityRows rows = new AuthorityRows();\n";
        int from = readme.indexOf(start) + start.length();
        String example = readme.substring(from, readme.indexOf("```", from));
        says("README.md");
        runLines(example.split("\n"));
        finish();
    }

    private static void runLines(String[] lines) {
        AuthorityRows rows = new AuthorityRows();
        Set<String> seen = new TreeSet<>();
        for (String line : lines) {
            Matcher text = TEXT.matcher(line);
            Matcher call = CALL.matcher(line);
            if (text.matches()) {
                collect(rows, text.group(1));
            } else if (call.matches()) {
                seen.add(call.group(1));
                due(line, answer(rows, call.group(1), numbers(call.group(2))), Integer.parseInt(call.group(3)));
            } else {
                fail("is no call with its answer: " + line);
            }
        }
        due("calls of the face that the example shows", seen.size(), CALLS_OF_THE_FACE_WITH_ANSWERS);
    }

    private static int[] numbers(String list) {
        return Pattern.compile("-?\\d+").matcher(list).results().mapToInt(n -> Integer.parseInt(n.group())).toArray();
    }

    private static int answer(AuthorityRows rows, String call, int[] n) {
        return switch (call) {
            case "heading" -> rows.heading(n[0]);
            case "link" -> rows.link(n[0], n[1], n[2], n[3]);
            case "rename" -> rows.rename(n[0]);
            case "find" -> rows.find();
            case "see" -> rows.see(n[0], n[1]);
            case "broader" -> rows.broader(n[0], n[1]);
            case "delete" -> rows.delete(n[0]);
            case "split" -> rows.split(n[0], n[1]);
            case "shown" -> rows.shown(n[0], n[1]);
            case "record" -> rows.record(n[0], n[1]);
            case "linked" -> rows.linked(n[0]);
            case "form" -> rows.form(n[0], n[1]);
            case "ring" -> rows.ring(n[0]);
            case "letter" -> rows.letter(n[0], n[1]);
            default -> throw new IllegalArgumentException("the face has no " + call);
        };
    }
}
