import java.io.IOException;
import java.nio.file.Files;
import java.nio.file.Path;
import java.util.HashMap;
import java.util.Map;
import java.util.regex.Matcher;
import java.util.regex.Pattern;

/** README.md tells the truth: its example answers as it says, and its table is the document's. */
public final class ReadmeTest {
    private static final Due D = new Due("ReadmeTest");
    private static final Pattern CALL =
            Pattern.compile("(?:int (\\w+) = )?register\\.(\\w+\\([^)]*\\));\\s*// (-?\\w+).*");
    private static final String[] REFUSALS = {"BAD", "NOT", "FULL"};

    public static void main(String[] args) throws IOException {
        String readme = Files.readString(Path.of("README.md"));
        example(codeOf(readme));
        table(readme, Document.read());
        D.holds("it says how to run the tests", readme.contains(".ci/run"));
        D.close();
    }

    private static String codeOf(String readme) {
        Matcher m = Pattern.compile("```java\\n(.*?)```", Pattern.DOTALL).matcher(readme);
        return m.find() ? m.group(1) : "";
    }

    private static void example(String code) {
        CopyRegister register = new CopyRegister();
        Map<String, Integer> named = new HashMap<>();
        String[] rows = code.split("\n");
        D.holds("the example makes an object", rows[0].equals("CopyRegister register = new CopyRegister();"));
        D.holds("the example has calls", rows.length > 1);
        for (int i = 1; i < rows.length; i++) {
            Matcher m = CALL.matcher(rows[i]);
            boolean isCall = m.matches();
            D.holds("a call with its answer: " + rows[i], isCall);
            if (isCall) {
                int got = Call.of(withNumbers(m.group(2), named)).on(register);
                D.due("README: " + m.group(2), got, answerOf(m.group(3)));
                if (m.group(1) != null) {
                    named.put(m.group(1), got);
                }
            }
        }
    }

    private static String withNumbers(String call, Map<String, Integer> named) {
        String text = call;
        for (Map.Entry<String, Integer> e : named.entrySet()) {
            text = text.replaceAll("\\b" + e.getKey() + "\\b(?!\\()", e.getValue().toString());
        }
        return text;
    }

    private static int answerOf(String word) {
        return switch (word) {
            case "NONE" -> CopyRegister.NONE;
            case "BAD" -> CopyRegister.BAD;
            case "NOT" -> CopyRegister.NOT;
            case "FULL" -> CopyRegister.FULL;
            case "NOBODY" -> CopyRegister.NOBODY;
            default -> Integer.parseInt(word);
        };
    }

    private static void table(String readme, Document document) {
        for (int number = 2; number <= Document.PROMISES; number++) {
            String form = document.formOf(number);
            Matcher m = Pattern.compile("\\| `" + Pattern.quote(form) + "` \\| [^|]+ \\| ([^|]*) \\|").matcher(readme);
            boolean found = !form.isEmpty() && m.find();
            D.holds("the table has promise " + number + ", " + form, found);
            for (String word : REFUSALS) {
                boolean told = found && m.group(1).contains(word);
                D.holds(form + " names " + word + " as the document does",
                        told == document.promiseNames(number, word));
            }
        }
    }
}
