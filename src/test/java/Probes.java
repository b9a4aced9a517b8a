import java.util.ArrayList;
import java.util.List;

/** Rows of calls that bring to light what a register holds. */
final class Probes {
    private final int today;
    private final int persons;
    private final int works;

    Probes(CopyRegister x) {
        today = x.count(0);
        persons = x.count(1);
        works = x.count(3);
    }

    /** Calls that change nothing themselves, so that they can be made twice on one object. */
    List<Call> reading() {
        List<Call> row = new ArrayList<>();
        for (int what = 0; what <= 5; what++) {
            row.add(Call.to("count", what));
        }
        for (int p = 0; p < persons; p++) {
            row.add(Call.to("died", p, today - 1));
            row.add(Call.to("died", p, today));
            row.add(Call.to("died", p, 3000));
        }
        for (int w : fewWorks()) {
            readTerms(row, w);
            readShares(row, w);
            readLines(row, w);
        }
        return row;
    }

    private void readTerms(List<Call> row, int w) {
        row.add(Call.to("end", w, today - 1));
        row.add(Call.to("end", w, today));
        row.add(Call.to("end", w, 3000));
        row.add(Call.to("inRight", w, today, today));
        row.add(Call.to("inRight", w, 3000, 3000));
    }

    private void readShares(List<Call> row, int w) {
        row.add(Call.to("held", w, CopyRegister.NOBODY, today));
        for (int p = 0; p < persons; p++) {
            row.add(Call.to("held", w, p, today - 1));
            row.add(Call.to("held", w, p, today));
            for (int use = 0; use <= 3; use++) {
                row.add(Call.to("may", w, use, p, today, today));
            }
        }
    }

    private void readLines(List<Call> row, int w) {
        for (int v : fewWorks()) {
            row.add(Call.to("alike", w, v));
            row.add(Call.to("pair", w, v, 0, 0));
            row.add(Call.to("pair", w, v, 0, 1));
            row.add(Call.to("copied", w, v, 50));
        }
    }

    /** Heirs, pledges, agreement and room are seen only by telling more; each row wants a register of its own. */
    List<List<Call>> telling() {
        List<List<Call>> rows = new ArrayList<>();
        rows.add(tellPersons());
        rows.add(tellPledges());
        rows.add(tellDeaths());
        rows.add(tellCommon());
        rows.add(tellWorksAndLicences());
        rows.add(tellTheNextDay());
        for (int w : fewWorks()) {
            rows.add(tellLines(w));
        }
        return rows;
    }

    private List<Call> tellPersons() {
        List<Call> row = new ArrayList<>();
        for (int p = 0; p < persons; p++) {
            row.add(Call.to("heir", p, -1));
        }
        for (int p = persons; p <= 12; p++) {
            row.add(Call.to("person"));
            for (int w : fewWorks()) {
                row.add(Call.to("agree", w, p, false));
            }
        }
        return row;
    }

    private List<Call> tellPledges() {
        List<Call> row = new ArrayList<>();
        for (int w : fewWorks()) {
            for (int p = 0; p < persons; p++) {
                for (int q = 0; q < persons; q++) {
                    row.add(Call.to("redeem", w, p, q));
                }
            }
        }
        return row;
    }

    private List<Call> tellDeaths() {
        List<Call> row = new ArrayList<>();
        for (int w : fewWorks()) {
            for (int p = 0; p < persons; p++) {
                row.add(Call.to("sell", w, p, (p + 1) % persons, 1));
            }
        }
        row.add(Call.to("days", 1));
        for (int p = 0; p < persons; p++) {
            row.add(Call.to("death", p, 0));
        }
        for (int w : fewWorks()) {
            row.add(Call.to("held", w, CopyRegister.NOBODY, today + 1));
        }
        return row;
    }

    /** Lines of one work alone: they show those of the others, which stay as they are. */
    private List<Call> tellLines(int w) {
        List<Call> row = new ArrayList<>();
        for (int x = 1; x <= 20; x++) {
            row.add(Call.to("line", w, x));
        }
        readLines(row, w);
        return row;
    }

    private List<Call> tellCommon() {
        List<Call> row = new ArrayList<>();
        for (int x = 1; x <= 25; x++) {
            row.add(Call.to("common", x, false));
        }
        row.add(Call.to("common", 999, false));
        for (int w : fewWorks()) {
            readLines(row, w);
        }
        return row;
    }

    private List<Call> tellWorksAndLicences() {
        List<Call> row = new ArrayList<>();
        for (int w : fewWorks()) {
            row.add(Call.to("license", w, 0, 0, 0, 3000));
            for (int p = 0; p < persons; p++) {
                row.add(Call.to("agree", w, p, false));
            }
        }
        for (int p = 0; p < persons; p++) {
            row.add(Call.to("work", p));
        }
        for (int i = 0; i <= 6; i++) {
            row.add(Call.to("act", Math.min(3000, today + 10 * i), 7, -1, 1, 1));
        }
        row.add(Call.to("count", 2));
        return row;
    }

    /** Licences may be for days to come. */
    private List<Call> tellTheNextDay() {
        List<Call> row = new ArrayList<>();
        row.add(Call.to("days", 1));
        for (int w : fewWorks()) {
            for (int p = 0; p < persons; p++) {
                for (int use = 0; use <= 3; use++) {
                    row.add(Call.to("may", w, use, p, today + 1, today + 1));
                }
            }
        }
        return row;
    }

    private int[] fewWorks() {
        return switch (works) {
            case 0 -> new int[0];
            case 1 -> new int[] {0};
            case 2 -> new int[] {0, 1};
            default -> new int[] {0, 1, works - 1};
        };
    }
}
