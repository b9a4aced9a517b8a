import java.io.IOException;
import java.nio.file.Files;
import java.nio.file.Path;
import java.util.regex.Matcher;
import java.util.regex.Pattern;

/** What ../shared/DOC.md says, with every run of blanks and line ends as one blank. */
final class Document {
    static final int PROMISES = 23;

    private final String text;

    private Document(String text) {
        this.text = text.replaceAll("\\s+", " ");
    }

    static Document read() throws IOException {
        return new Document(Files.readString(Path.of("../shared/DOC.md")));
    }

    boolean says(String words) {
        return text.contains(words);
    }

    private String promise(int number) {
        Matcher m = Pattern.compile("## Promise " + number + ": (.*?)(?=## |$)").matcher(text);
        return m.find() ? m.group(1) : "";
    }

    /** The name of the call that a promise is about. */
    String callOf(int number) {
        return promise(number).split(" ")[0];
    }

    /** The call with the names of its parameters, without their types: "sell(work, from, to, n)". */
    String formOf(int number) {
        Matcher m = Pattern.compile("`int (\\w+\\([^)]*\\))`").matcher(promise(number));
        return m.find() ? m.group(1).replaceAll("(int|boolean) ", "") : "";
    }

    boolean promiseNames(int number, String word) {
        return Pattern.compile("\\b" + word + "\\b").matcher(promise(number)).find();
    }
}
