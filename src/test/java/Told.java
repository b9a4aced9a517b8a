import java.util.ArrayList;
import java.util.List;

/** What was told to a register, so that it can be told again to as many new objects as a test wants. */
final class Told {
    /** Beyond these the document promises nothing of an object. */
    private static final int MOST_CALLS = 512;

    private final List<Call> calls;
    private List<Call> reading;
    private List<List<Call>> probes;
    private List<int[]> untouched;

    private Told(List<Call> calls) {
        this.calls = calls;
    }

    static Told of(String text) {
        return new Told(Call.allOf(text));
    }

    Told and(String text) {
        List<Call> more = new ArrayList<>(calls);
        more.addAll(Call.allOf(text));
        return new Told(more);
    }

    /** The same call with each number from least to most for its '#'. */
    static String each(int least, int most, String form) {
        StringBuilder text = new StringBuilder();
        for (int i = least; i <= most; i++) {
            text.append(form.replace("#", Integer.toString(i))).append(' ');
        }
        return text.toString();
    }

    CopyRegister again() {
        CopyRegister x = new CopyRegister();
        for (Call call : calls) {
            call.on(x);
        }
        return x;
    }

    /** A set-up that is itself refused would make a test say nothing: the first such call, or none. */
    String refusedPart() {
        CopyRegister x = new CopyRegister();
        for (Call call : calls) {
            int answer = call.on(x);
            if (answer == CopyRegister.BAD || answer == CopyRegister.NOT || answer == CopyRegister.FULL) {
                return call + " answered " + answer;
            }
        }
        return "";
    }

    /** The first sign that a call changed something, or none. */
    String changeBy(Call call) {
        prepare();
        String change = changeOnOneObject(call);
        for (int i = 0; i < probes.size() && change.isEmpty(); i++) {
            CopyRegister x = again();
            call.on(x);
            change = difference(probes.get(i), untouched.get(i), answers(x, probes.get(i)));
        }
        return change;
    }

    private String changeOnOneObject(Call call) {
        for (List<Call> part : parts(reading, (MOST_CALLS - calls.size() - 1) / 2)) {
            CopyRegister x = again();
            int[] before = answers(x, part);
            call.on(x);
            String change = difference(part, before, answers(x, part));
            if (!change.isEmpty()) {
                return change;
            }
        }
        return "";
    }

    private void prepare() {
        if (probes != null) {
            return;
        }
        Probes all = new Probes(again());
        reading = all.reading();
        probes = new ArrayList<>();
        for (List<Call> row : all.telling()) {
            probes.addAll(parts(row, MOST_CALLS - calls.size() - 1));
        }
        untouched = new ArrayList<>();
        for (List<Call> row : probes) {
            untouched.add(answers(again(), row));
        }
    }

    private static List<List<Call>> parts(List<Call> row, int most) {
        if (most < 1) {
            throw new IllegalArgumentException("too much is told to leave room for a look at it");
        }
        List<List<Call>> parts = new ArrayList<>();
        for (int from = 0; from < row.size(); from += most) {
            parts.add(row.subList(from, Math.min(row.size(), from + most)));
        }
        return parts;
    }

    private static int[] answers(CopyRegister x, List<Call> row) {
        int[] answers = new int[row.size()];
        for (int i = 0; i < answers.length; i++) {
            answers[i] = row.get(i).on(x);
        }
        return answers;
    }

    private static String difference(List<Call> row, int[] want, int[] got) {
        for (int i = 0; i < want.length; i++) {
            if (want[i] != got[i]) {
                return row.get(i) + " answers " + got[i] + ", without it " + want[i];
            }
        }
        return "";
    }
}
