import java.util.Map;
import java.util.Set;
import java.util.TreeMap;
import java.util.TreeSet;

/**
 * Tests that each belong to one sentence of the document. It sees to it that
 * the sentence does stand there, and that no promise and none of the refusals
 * that it names is left without a test.
 */
final class Sentences {
    private final Due due = new Due("SentencesTest");
    private final Document document;
    private final Map<Integer, Integer> count = new TreeMap<>();
    private final Map<Integer, Set<Integer>> refusals = new TreeMap<>();
    private int promise;
    private String sentence = "";

    Sentences(Document document) {
        this.document = document;
    }

    /** What follows is for this promise, and for this sentence of the document. */
    void of(int number, String words) {
        promise = number;
        sentence = words;
        count.merge(number, 1, Integer::sum);
        due.holds(at("stands in the document"), document.says(words));
    }

    Told told(String calls) {
        return checked(Told.of(calls));
    }

    Told told(Told before, String calls) {
        return checked(before.and(calls));
    }

    private Told checked(Told told) {
        String refused = told.refusedPart();
        due.holds(at("its set-up is taken: " + refused), refused.isEmpty());
        return told;
    }

    private String at(String what) {
        return "promise " + promise + " \"" + sentence + "\": " + what;
    }

    /** On a new object that was told so much, the call answers so. */
    void answers(Told told, String call, int want) {
        due.due(at(call), Call.of(call).on(told.again()), want);
    }

    /** The call is refused so, and nothing changes. */
    void refuses(Told told, String text, int want) {
        Call call = Call.of(text);
        due.due(at(text), call.on(told.again()), want);
        String change = told.changeBy(call);
        due.holds(at(text + " changes nothing, but " + change), change.isEmpty());
        due.holds(at(text + " is the promise's call"), promise == 1 || call.name().equals(document.callOf(promise)));
        refusals.computeIfAbsent(promise, key -> new TreeSet<>()).add(want);
    }

    void refusesEach(Told told, int want, String... texts) {
        for (String text : texts) {
            refuses(told, text, want);
        }
    }

    /** '#' may be least .. most: both answer so; the first number outside on each side is BAD. */
    void edges(Told told, String form, int least, int most, int want) {
        answers(told, filled(form, least), want);
        answers(told, filled(form, most), want);
        outside(told, form, least, most);
    }

    /** The first numbers outside of least .. most, and those with which a sum would wrap around. */
    void outside(Told told, String form, int least, int most) {
        int[] far = {least - 1, most + 1, Integer.MIN_VALUE, Integer.MIN_VALUE + 1,
            Integer.MAX_VALUE - 1, Integer.MAX_VALUE};
        for (int number : far) {
            refuses(told, filled(form, number), CopyRegister.BAD);
        }
    }

    private static String filled(String form, int number) {
        return form.replace("#", Integer.toString(number));
    }

    void close() {
        for (int number = 1; number <= Document.PROMISES; number++) {
            due.holds("promise " + number + " has a sentence tested", count.containsKey(number));
            wants(number, "BAD", CopyRegister.BAD);
            wants(number, "NOT", CopyRegister.NOT);
            wants(number, "FULL", CopyRegister.FULL);
        }
        System.out.println("SentencesTest: sentences tested by promise " + count);
        due.close();
    }

    private void wants(int number, String word, int answer) {
        boolean named = document.promiseNames(number, word);
        boolean tested = refusals.getOrDefault(number, Set.of()).contains(answer);
        due.holds("promise " + number + ": " + word + " tested if and only if named",
                number == 1 || named == tested);
    }
}
