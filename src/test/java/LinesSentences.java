/** Promises 18 to 23: line, common, alike, pair, copied, count. */
final class LinesSentences {
    private static final int BAD = CopyRegister.BAD, FULL = CopyRegister.FULL, NONE = CopyRegister.NONE;
    private static final String FIRST_THAT_FITS = "Refused, and nothing changes, the first that fits";
    private static final String TWENTY_LINES = Told.each(1, 20, "line(0, #)");
    private static final String TWENTY_COMMON = Told.each(1, 20, "common(#, true)");

    private final Sentences s;
    private final Told nothing;
    private final Told empty;
    private final Told twenty;

    LinesSentences(Sentences s) {
        this.s = s;
        nothing = s.told("");
        empty = rows("", "");
        twenty = s.told("person()" + "work(0) ".repeat(20));
    }

    void test() {
        lineNumbers();
        mostLines();
        commonNumbers();
        commonWhetherItWas();
        mostCommon();
        alikeNumbers();
        alikeInOrder();
        alikeAskedBefore();
        alikeNotCommon();
        pairNumbers();
        pairNotSoMany();
        pairLeastPlaces();
        pairPlacesBesideCommon();
        copiedNumbers();
        copiedAboveNothing();
        copiedByPercent();
        copiedWithoutCommon();
        countNumbers();
        countAll();
    }

    /** One person's works, one for each row of lines. */
    private Told rows(String... rows) {
        StringBuilder calls = new StringBuilder("person() ");
        for (int w = 0; w < rows.length; w++) {
            calls.append("work(0) ");
            for (String x : rows[w].isEmpty() ? new String[0] : rows[w].split(" ")) {
                calls.append("line(").append(w).append(", ").append(x).append(") ");
            }
        }
        return s.told(calls.toString());
    }

    private void lineNumbers() {
        s.of(18, "LINES of a WORK: a row of numbers (1 .. 999)");
        s.edges(empty, "line(0, #)", 1, 999, 1);
        s.edges(empty, "line(#, 5)", 0, 1, 1);
        s.edges(twenty, "line(#, 5)", 0, 19, 1);
        s.refusesEach(rows("5", "5"), BAD, "line(0, 0)", "line(0, 1000)", "line(0, -1)");
        s.answers(rows("999 1", ""), "line(0, 1)", 3);
        s.answers(rows("999 1", ""), "line(1, 1)", 1);
    }

    private void mostLines() {
        s.of(18, "a row of numbers (1 .. 999), 20 at most.");
        Told nineteen = s.told(empty, Told.each(1, 19, "line(0, #)"));
        s.answers(nineteen, "line(0, 1)", 20);
        Told full = s.told(empty, TWENTY_LINES);
        s.refusesEach(full, FULL, "line(0, 1)", "line(0, 999)");
        s.answers(full, "line(1, 1)", 1);
        s.answers(full, "alike(0, 0)", 20);
        Told commonAndFull = s.told(full, "common(20, true)");
        s.refuses(commonAndFull, "line(0, 20)", FULL);
        s.of(18, FIRST_THAT_FITS);
        s.refusesEach(full, BAD, "line(0, 0)", "line(0, 1000)", "line(0, MIN)", "line(0, MAX)", "line(2, 1)",
                "line(-1, 1)");
    }

    private void commonNumbers() {
        s.of(19, "A line is COMMON, or no more: whether it was (1, 0). BAD; FULL.");
        s.edges(nothing, "common(#, true)", 1, 999, 0);
        s.edges(nothing, "common(#, false)", 1, 999, 0);
        Told both = s.told(empty, "line(0, 1) line(0, 999) common(1, true) common(999, true)");
        s.edges(both, "common(#, true)", 1, 999, 1);
        s.edges(both, "common(#, false)", 1, 999, 1);
    }

    private void commonWhetherItWas() {
        s.of(19, "whether it was (1, 0)");
        Told one = s.told("common(7, true)");
        s.answers(one, "common(7, true)", 1);
        s.answers(one, "common(7, false)", 1);
        s.answers(one, "common(8, true)", 0);
        s.answers(one, "common(6, false)", 0);
        s.answers(s.told(one, "common(7, true)"), "count(5)", 1);
        Told off = s.told(one, "common(7, false)");
        s.answers(off, "count(5)", 0);
        s.answers(off, "common(7, false)", 0);
        s.answers(off, "common(7, true)", 0);
        s.answers(s.told(off, "common(7, false)"), "count(5)", 0);
    }

    private void mostCommon() {
        s.of(19, "COMMON are lines (20 at most) that all had from elsewhere.");
        s.answers(s.told(Told.each(1, 19, "common(#, true)")), "common(999, true)", 0);
        Told full = s.told(empty, "line(0, 21) line(0, 20)" + TWENTY_COMMON);
        s.answers(full, "count(5)", 20);
        s.refusesEach(full, FULL, "common(21, true)", "common(999, true)");
        s.answers(full, "common(1, true)", 1);
        s.answers(full, "common(20, true)", 1);
        s.answers(full, "common(21, false)", 0);
        s.answers(full, "common(20, false)", 1);
        s.answers(s.told(full, "common(21, false)"), "count(5)", 20);
        Told roomAgain = s.told(full, "common(20, false)");
        s.answers(roomAgain, "common(21, true)", 0);
        s.answers(roomAgain, "count(5)", 19);
        s.refuses(s.told(roomAgain, "common(21, true)"), "common(20, true)", FULL);
        s.of(19, FIRST_THAT_FITS);
        s.refusesEach(full, BAD, "common(0, true)", "common(1000, true)", "common(MIN, true)", "common(MAX, true)",
                "common(0, false)", "common(1000, false)");
    }

    private void alikeNumbers() {
        s.of(20, "LENGTH of ALIKE of two WORKS (also of one and itself). BAD.");
        s.edges(empty, "alike(#, 0)", 0, 1, 0);
        s.edges(empty, "alike(0, #)", 0, 1, 0);
        s.edges(twenty, "alike(#, 19)", 0, 19, 0);
        s.edges(twenty, "alike(19, #)", 0, 19, 0);
        s.answers(rows("5"), "alike(0, 0)", 1);
        s.answers(rows("5 6 5"), "alike(0, 0)", 3);
        s.answers(s.told(empty, TWENTY_LINES), "alike(0, 0)", 20);
        s.answers(s.told(empty, TWENTY_LINES), "alike(0, 1)", 0);
        s.answers(s.told(empty, TWENTY_LINES), "alike(1, 0)", 0);
        s.answers(s.told(empty, TWENTY_LINES + Told.each(1, 20, "line(1, #)")), "alike(0, 1)", 20);
        s.answers(s.told(empty, "line(0, 7) ".repeat(20) + "line(1, 7) ".repeat(19)), "alike(0, 1)", 19);
    }

    private void alikeInOrder() {
        s.of(20, "which comes in both in order (not side by side): its LENGTH");
        s.answers(rows("1", "2"), "alike(0, 1)", 0);
        s.answers(rows("1 2", "2 1"), "alike(0, 1)", 1);
        s.answers(rows("1 2 3", "1 9 2 8 3"), "alike(0, 1)", 3);
        s.answers(rows("1 9 2 8 3", "7 1 2 3"), "alike(0, 1)", 3);
        s.answers(rows("1 2 3 4", "4 3 2 1"), "alike(0, 1)", 1);
        s.answers(rows("1 1 1", "1 1"), "alike(0, 1)", 2);
        s.answers(rows("1", "1 1 1"), "alike(0, 1)", 1);
    }

    /** The answer is of the works that are asked for, whichever were asked for before. */
    private void alikeAskedBefore() {
        s.of(20, "LENGTH of ALIKE of two WORKS");
        Told longest = s.told("person() work(0) work(0) work(0) work(0)" + "line(0, 4) ".repeat(20)
                + "line(1, 4) line(1, 5) line(2, 5) line(2, 4) alike(0, 0)");
        int[] length = {20, 1, 1, 0};
        for (int w = 0; w <= 3; w++) {
            s.answers(longest, "alike(" + w + ", 0)", length[w]);
            s.answers(longest, "alike(0, " + w + ")", length[w]);
        }
        s.answers(longest, "alike(1, 2)", 1);
        s.answers(s.told(rows("999", "999"), "alike(0, 1)"), "alike(1, 0)", 1);
    }

    private void alikeNotCommon() {
        s.of(20, "the longest row of lines that are not COMMON");
        Told alike = rows("1 2 3", "1 2 3");
        s.answers(s.told(alike, "common(2, true)"), "alike(0, 1)", 2);
        s.answers(s.told(alike, "common(2, true)"), "alike(0, 0)", 2);
        s.answers(s.told(alike, "common(1, true) common(2, true) common(3, true)"), "alike(0, 1)", 0);
        s.answers(s.told(alike, "common(2, true) common(2, false)"), "alike(0, 1)", 3);
        s.answers(s.told(alike, "common(4, true)"), "alike(0, 1)", 3);
        Told edge = rows("1 999", "1 999");
        s.answers(s.told(edge, "common(999, true)"), "alike(0, 1)", 1);
        s.answers(s.told(edge, "common(999, true) common(1, true)"), "alike(0, 1)", 0);
    }

    private void pairNumbers() {
        s.of(21, "Place of line i (from 0) of PAIRS in a (way 0), b (1)");
        Told alike = rows("9 1 2", "1 8 2");
        s.answers(alike, "pair(0, 1, 0, 0)", 1);
        s.answers(alike, "pair(0, 1, 0, 1)", 0);
        s.answers(alike, "pair(0, 1, 1, 0)", 2);
        s.answers(alike, "pair(0, 1, 1, 1)", 2);
        s.answers(alike, "pair(1, 0, 0, 0)", 0);
        s.answers(alike, "pair(1, 0, 0, 1)", 1);
        s.refusesEach(alike, BAD, "pair(0, 1, -1, 0)", "pair(0, 1, -1, 1)", "pair(0, 1, MIN, 0)", "pair(0, 1, MIN, 1)");
        s.outside(alike, "pair(#, 1, 0, 0)", 0, 1);
        s.outside(alike, "pair(0, #, 0, 0)", 0, 1);
        s.outside(alike, "pair(0, 1, 0, #)", 0, 1);
        s.edges(twenty, "pair(#, 19, 0, 0)", 0, 19, NONE);
        s.edges(twenty, "pair(19, #, 0, 1)", 0, 19, NONE);
    }

    private void pairNotSoMany() {
        s.of(21, "NONE: it has not so many. BAD.");
        Told alike = rows("9 1 2", "1 8 2");
        s.answers(alike, "pair(0, 1, 2, 0)", NONE);
        s.answers(alike, "pair(0, 1, 2, 1)", NONE);
        s.answers(alike, "pair(0, 1, 20, 0)", NONE);
        s.answers(alike, "pair(0, 1, MAX, 0)", NONE);
        s.answers(alike, "pair(0, 1, MAX, 1)", NONE);
        s.answers(empty, "pair(0, 1, 0, 0)", NONE);
        s.answers(empty, "pair(0, 0, 0, 1)", NONE);
        Told full = s.told(empty, TWENTY_LINES + Told.each(1, 20, "line(1, #)"));
        s.answers(full, "pair(0, 1, 19, 0)", 19);
        s.answers(full, "pair(0, 1, 19, 1)", 19);
        s.answers(full, "pair(0, 1, 20, 0)", NONE);
        s.answers(full, "pair(0, 1, 20, 1)", NONE);
        s.refusesEach(alike, BAD, "pair(0, 1, 2, 2)", "pair(0, 1, 2, -1)", "pair(0, 2, 2, 0)", "pair(2, 0, MAX, 0)",
                "pair(0, 1, MAX, MAX)");
    }

    private void pairLeastPlaces() {
        s.of(21, "that with the least places in the first WORK (the first place, then the second, and so on),"
                + " of these with the least in the second one");
        pairs(rows("1 2", "2 1"), "0", "1");
        pairs(rows("5 5", "5"), "0", "0");
        pairs(rows("5", "4 5 5"), "0", "1");
        pairs(rows("5 5", "5 5 5"), "0 1", "0 1");
        pairs(rows("9 1 2 3", "1 2 3 9"), "1 2 3", "0 1 2");
        pairs(rows("1 2 3 4", "3 4 1 2"), "0 1", "2 3");
        pairs(rows("1 2 3", "1 3 2"), "0 1", "0 2");
        pairs(rows("1 2 1 2 1", "2 1 1 2"), "0 2 3", "1 2 3");
        pairs(rows("1 2 2", "2 1 2"), "0 1", "1 2");
        pairs(rows("2 1 2", "1 2 2"), "0 2", "1 2");
        pairs(rows("3 1 2 3", "1 3 2 3"), "0 2 3", "1 2 3");
    }

    /** All places of the pairs in both works, and no more than these. */
    private void pairs(Told told, String inFirst, String inSecond) {
        String[] a = inFirst.split(" ");
        String[] b = inSecond.split(" ");
        for (int i = 0; i < a.length; i++) {
            s.answers(told, "pair(0, 1, " + i + ", 0)", Integer.parseInt(a[i]));
            s.answers(told, "pair(0, 1, " + i + ", 1)", Integer.parseInt(b[i]));
        }
        s.answers(told, "pair(0, 1, " + a.length + ", 0)", NONE);
        s.answers(told, "pair(0, 1, " + a.length + ", 1)", NONE);
    }

    private void pairPlacesBesideCommon() {
        s.of(21, "the longest row of lines that are not COMMON");
        Told alike = rows("7 1 7 2 3", "1 7 7 3 2");
        pairs(alike, "0 2 3", "1 2 4");
        pairs(s.told(alike, "common(7, true)"), "1 3", "0 4");
        pairs(s.told(alike, "common(7, true) common(2, true)"), "1 4", "0 3");
        s.answers(s.told(alike, Told.each(1, 7, "common(#, true)")), "pair(0, 1, 0, 0)", NONE);
    }

    private void copiedNumbers() {
        s.of(22, "COPIED is a WORK of another one by p (1 .. 100)");
        Told alike = rows("1", "1");
        s.edges(alike, "copied(0, 1, #)", 1, 100, 1);
        s.edges(alike, "copied(#, 1, 1)", 0, 1, 1);
        s.edges(alike, "copied(1, #, 100)", 0, 1, 1);
        s.edges(twenty, "copied(#, 19, 1)", 0, 19, 0);
        s.edges(twenty, "copied(19, #, 1)", 0, 19, 0);
        Told four = rows("1 2 3 4", "1");
        s.outside(four, "copied(0, 1, #)", 1, 100);
        s.refusesEach(four, BAD, "copied(0, 1, 1073741824)", "copied(0, 1, -1073741824)", "copied(0, 1, 536870912)");
    }

    private void copiedAboveNothing() {
        s.of(22, "LENGTH is above 0");
        s.answers(empty, "copied(0, 1, 1)", 0);
        s.answers(empty, "copied(0, 0, 1)", 0);
        s.answers(rows("1", ""), "copied(0, 1, 1)", 0);
        s.answers(rows("1", ""), "copied(1, 0, 1)", 0);
        s.answers(rows("1", "2"), "copied(0, 1, 1)", 0);
        s.answers(s.told(rows("1", "1"), "common(1, true)"), "copied(0, 1, 1)", 0);
        s.answers(s.told(empty, TWENTY_LINES + "line(1, 20)"), "copied(0, 1, 1)", 1);
    }

    private void copiedByPercent() {
        s.of(22, "100 times it not below p times the lines of the first one of both, which is COPIED");
        Told half = rows("1 2", "1 9 9 9");
        s.answers(half, "copied(0, 1, 49)", 1);
        s.answers(half, "copied(0, 1, 50)", 1);
        s.answers(half, "copied(0, 1, 51)", 0);
        s.answers(half, "copied(1, 0, 25)", 1);
        s.answers(half, "copied(1, 0, 26)", 0);
        Told third = rows("1 2 3", "1");
        s.answers(third, "copied(0, 1, 33)", 1);
        s.answers(third, "copied(0, 1, 34)", 0);
        s.answers(third, "copied(1, 0, 100)", 1);
        Told twentieth = s.told(empty, TWENTY_LINES + "line(1, 20)");
        s.answers(twentieth, "copied(0, 1, 5)", 1);
        s.answers(twentieth, "copied(0, 1, 6)", 0);
        s.answers(twentieth, "copied(0, 0, 100)", 1);
        Told all18Of19 = s.told(empty, Told.each(1, 19, "line(0, #)") + Told.each(1, 18, "line(1, #)"));
        s.answers(all18Of19, "copied(0, 1, 94)", 1);
        s.answers(all18Of19, "copied(0, 1, 95)", 0);
    }

    private void copiedWithoutCommon() {
        s.of(22, "p times the lines of the first one of both, which is COPIED, that are not COMMON.");
        Told rows = rows("1 2 3", "1 9");
        s.answers(s.told(rows, "common(3, true)"), "copied(0, 1, 50)", 1);
        s.answers(s.told(rows, "common(3, true)"), "copied(0, 1, 51)", 0);
        s.answers(s.told(rows, "common(3, true) common(2, true)"), "copied(0, 1, 100)", 1);
        s.answers(s.told(rows, "common(9, true)"), "copied(0, 1, 34)", 0);
        s.answers(s.told(rows, "common(9, true)"), "copied(1, 0, 100)", 1);
        s.answers(s.told(rows, "common(1, true)"), "copied(0, 1, 1)", 0);
    }

    private void countNumbers() {
        s.of(23, "0 THE DAY, 1 PERSONS, 2 ACTS, 3 WORKS, 4 LICENCES, 5 COMMON lines. BAD.");
        s.edges(nothing, "count(#)", 0, 5, 0);
        Told some = s.told("days(9)" + "person() ".repeat(5) + "act(9, 10, -1, 0, 16) act(10, 10, -1, 0, 16)"
                + "work(0) ".repeat(4) + "agree(0, 0, true) license(0, 0, 0, 0, 0)" + Told.each(1, 7, "common(#, true)"));
        int[] want = {9, 5, 2, 4, 1, 7};
        for (int what = 0; what <= 5; what++) {
            s.answers(some, "count(" + what + ")", want[what]);
        }
        s.outside(some, "count(#)", 0, 5);
    }

    private void countAll() {
        s.of(23, "0 THE DAY, 1 PERSONS, 2 ACTS, 3 WORKS, 4 LICENCES, 5 COMMON lines.");
        Told most = s.told("person() ".repeat(12) + "work(0) ".repeat(20) + Told.each(0, 5, "act(#, 9, -1, 0, 1)")
                + "agree(0, 0, true)" + "license(0, 0, 0, 0, 0) ".repeat(40) + TWENTY_COMMON + "days(500) ".repeat(6));
        int[] want = {3000, 12, 6, 20, 40, 20};
        for (int what = 0; what <= 5; what++) {
            s.answers(most, "count(" + what + ")", want[what]);
        }
        s.outside(most, "count(#)", 0, 5);
    }
}
