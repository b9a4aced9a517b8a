/** Promises 18 to 23: line, common, alike, pair, copied, count. */
public final class LinesTest {
    private static final int BAD = CopyRegister.BAD, FULL = CopyRegister.FULL, NONE = CopyRegister.NONE;
    private static final Due D = new Due("LinesTest");

    public static void main(String[] args) {
        lines();
        common();
        commonFull();
        alike();
        pairRefusals();
        pairsAreTheLeast();
        pairsWithoutCommonLines();
        longRows();
        copied();
        count();
        D.close();
    }

    private static CopyRegister withRows(int[]... rows) {
        CopyRegister x = new CopyRegister();
        x.person();
        for (int w = 0; w < rows.length; w++) {
            D.due("work", x.work(0), w);
            for (int i = 0; i < rows[w].length; i++) {
                D.due("line", x.line(w, rows[w][i]), i + 1);
            }
        }
        return x;
    }

    private static int[] row(int... lines) {
        return lines;
    }

    private static void lines() {
        CopyRegister x = withRows(row(), row());
        D.due("no such work", x.line(2, 1), BAD);
        D.due("work -1", x.line(-1, 1), BAD);
        D.due("x = 0", x.line(0, 0), BAD);
        D.due("x = -1", x.line(0, -1), BAD);
        D.due("x = 1000", x.line(0, 1000), BAD);
        D.due("x = 1", x.line(0, 1), 1);
        D.due("x = 999", x.line(0, 999), 2);
        D.due("the same again", x.line(0, 999), 3);
        D.due("of the other work", x.line(1, 5), 1);
        for (int i = 4; i <= 20; i++) {
            D.due("line " + i, x.line(0, i), i);
        }
        D.due("the 21st", x.line(0, 1), FULL);
        D.due("BAD goes first", x.line(0, 1000), BAD);
        D.due("of the other work", x.line(1, 5), 2);
        D.due("all 20 are there", x.alike(0, 0), 20);
    }

    private static void common() {
        CopyRegister x = new CopyRegister();
        D.due("x = 0", x.common(0, true), BAD);
        D.due("x = 1000", x.common(1000, true), BAD);
        D.due("x = -1", x.common(-1, false), BAD);
        D.due("x = 0, off", x.common(0, false), BAD);
        D.due("x = 1000, off", x.common(1000, false), BAD);
        D.due("it was not", x.common(1, false), 0);
        D.due("none are", x.count(5), 0);
        D.due("it was not", x.common(1, true), 0);
        D.due("it was", x.common(1, true), 1);
        D.due("one is", x.count(5), 1);
        D.due("another was not", x.common(999, true), 0);
        D.due("two are", x.count(5), 2);
        D.due("it was", x.common(1, false), 1);
        D.due("no more", x.common(1, false), 0);
        D.due("one is left", x.count(5), 1);
    }

    private static void commonFull() {
        CopyRegister x = new CopyRegister();
        for (int i = 1; i <= 20; i++) {
            D.due("common " + i, x.common(i, true), 0);
        }
        D.due("the 21st", x.common(21, true), FULL);
        D.due("BAD goes first", x.common(1000, true), BAD);
        D.due("one that is already", x.common(20, true), 1);
        D.due("one that is not, off", x.common(21, false), 0);
        D.due("20 are", x.count(5), 20);
        D.due("one off", x.common(3, false), 1);
        D.due("room again", x.common(21, true), 0);
        D.due("full again", x.common(3, true), FULL);
        D.due("20 are", x.count(5), 20);
    }

    private static void alike() {
        CopyRegister x = withRows(row(1, 2, 3, 4, 5), row(2, 9, 4, 1, 5), row(), row(5, 4, 3, 2, 1), row(7, 8));
        D.due("in order, not side by side", x.alike(0, 1), 3);
        D.due("the other way round", x.alike(1, 0), 3);
        D.due("itself", x.alike(0, 0), 5);
        D.due("turned round", x.alike(0, 3), 1);
        D.due("an empty one", x.alike(0, 2), 0);
        D.due("two empty ones", x.alike(2, 2), 0);
        D.due("nothing alike", x.alike(0, 4), 0);
        D.due("no such first", x.alike(5, 0), BAD);
        D.due("no such second", x.alike(0, 5), BAD);
        D.due("first -1", x.alike(-1, 0), BAD);
        D.due("second -1", x.alike(0, -1), BAD);
        x.common(4, true);
        D.due("without a common line", x.alike(0, 1), 2);
        D.due("itself without it", x.alike(0, 0), 4);
        x.common(4, false);
        D.due("common no more", x.alike(0, 1), 3);
        CopyRegister y = withRows(row(1, 1, 1), row(1, 1));
        D.due("the same line more than once", y.alike(0, 1), 2);
    }

    private static void pairRefusals() {
        CopyRegister x = withRows(row(1, 2), row(1, 2));
        D.due("no such first", x.pair(2, 0, 0, 0), BAD);
        D.due("no such second", x.pair(0, 2, 0, 0), BAD);
        D.due("first -1", x.pair(-1, 0, 0, 0), BAD);
        D.due("second -1", x.pair(0, -1, 0, 0), BAD);
        D.due("i = -1", x.pair(0, 1, -1, 0), BAD);
        D.due("way -1", x.pair(0, 1, 0, -1), BAD);
        D.due("way 2", x.pair(0, 1, 0, 2), BAD);
        D.due("way 2, BAD goes first", x.pair(0, 1, 9, 2), BAD);
        D.due("the last", x.pair(0, 1, 1, 1), 1);
        D.due("not so many", x.pair(0, 1, 2, 0), NONE);
        D.due("not so many by far", x.pair(0, 1, Integer.MAX_VALUE, 1), NONE);
    }

    private static void duePairs(String what, CopyRegister x, int[] inFirst, int[] inSecond) {
        D.due(what + ": length", x.alike(0, 1), inFirst.length);
        for (int i = 0; i < inFirst.length; i++) {
            D.due(what + ": pair " + i + " in the first", x.pair(0, 1, i, 0), inFirst[i]);
            D.due(what + ": pair " + i + " in the second", x.pair(0, 1, i, 1), inSecond[i]);
        }
        D.due(what + ": no more", x.pair(0, 1, inFirst.length, 0), NONE);
        D.due(what + ": no more", x.pair(0, 1, inFirst.length, 1), NONE);
    }

    private static void pairsAreTheLeast() {
        duePairs("two rows of one length: the least in the first",
                withRows(row(1, 2), row(2, 1)), row(0), row(1));
        duePairs("the least in the second one, too",
                withRows(row(5), row(4, 5, 5)), row(0), row(1));
        duePairs("the first of two that are the same",
                withRows(row(5, 5), row(5)), row(0), row(0));
        duePairs("a first match that would lose others is passed over",
                withRows(row(9, 1, 2, 3), row(1, 2, 3, 9)), row(1, 2, 3), row(0, 1, 2));
        duePairs("a least place in the first goes before the second",
                withRows(row(1, 2, 3, 4), row(3, 4, 1, 2)), row(0, 1), row(2, 3));
        duePairs("the second place counts when the first is one",
                withRows(row(1, 2, 3), row(1, 3, 2)), row(0, 1), row(0, 2));
        duePairs("the same lines many times",
                withRows(row(1, 2, 1, 2, 1), row(2, 1, 1, 2)), row(0, 2, 3), row(1, 2, 3));
    }

    private static void pairsWithoutCommonLines() {
        CopyRegister x = withRows(row(7, 1, 7, 2, 3), row(1, 7, 7, 3, 2));
        duePairs("with 7", x, row(0, 2, 3), row(1, 2, 4));
        x.common(7, true);
        duePairs("places count common lines", x, row(1, 3), row(0, 4));
        x.common(2, true);
        duePairs("without 7 and 2", x, row(1, 4), row(0, 3));
        x.common(1, true);
        x.common(3, true);
        duePairs("all are common", x, row(), row());
    }

    private static void longRows() {
        int[] all = new int[20];
        int[] same = new int[20];
        for (int i = 0; i < 20; i++) {
            all[i] = 980 + i;
            same[i] = 4;
        }
        CopyRegister x = withRows(all, all);
        D.due("20 alike", x.alike(0, 1), 20);
        D.due("the 20th", x.pair(0, 1, 19, 0), 19);
        D.due("the 20th, in b", x.pair(0, 1, 19, 1), 19);
        D.due("no 21st", x.pair(0, 1, 20, 1), NONE);
        CopyRegister y = withRows(same, row(4, 4), row(), all);
        D.due("20 of 20", y.alike(0, 0), 20);
        D.due("then 2", y.alike(0, 1), 2);
        D.due("2 from the other side", y.alike(1, 0), 2);
        D.due("then none", y.alike(0, 2), 0);
        D.due("none from the other side", y.alike(2, 0), 0);
        D.due("none alike", y.alike(3, 0), 0);
        D.due("still none", y.pair(3, 0, 0, 0), NONE);
        CopyRegister z = withRows(same, row(4, 5), row(5, 4));
        int[] shorter = {1, 2};
        for (int w : shorter) {
            D.due("20 of 20", z.alike(0, 0), 20);
            D.due("nothing is left of it, first short", z.alike(w, 0), 1);
            D.due("20 of 20", z.alike(0, 0), 20);
            D.due("nothing is left of it, second short", z.alike(0, w), 1);
        }
    }

    private static void copied() {
        CopyRegister x = withRows(row(1, 2, 3), row(1, 9, 8, 7, 6, 5, 4), row(), row(50));
        D.due("no such first", x.copied(4, 0, 1), BAD);
        D.due("no such second", x.copied(0, 4, 1), BAD);
        D.due("first -1", x.copied(-1, 0, 1), BAD);
        D.due("second -1", x.copied(0, -1, 1), BAD);
        D.due("p = 0", x.copied(0, 1, 0), BAD);
        D.due("p = 101", x.copied(0, 1, 101), BAD);
        D.due("1 of 3 by 33", x.copied(0, 1, 33), 1);
        D.due("1 of 3 by 34", x.copied(0, 1, 34), 0);
        D.due("1 of 7 by 14", x.copied(1, 0, 14), 1);
        D.due("1 of 7 by 15", x.copied(1, 0, 15), 0);
        D.due("1 of 3 by 1", x.copied(0, 1, 1), 1);
        D.due("length 0", x.copied(0, 3, 1), 0);
        D.due("an empty one", x.copied(2, 0, 1), 0);
        D.due("of an empty one", x.copied(0, 2, 1), 0);
        D.due("itself by 100", x.copied(0, 0, 100), 1);
        x.common(2, true);
        D.due("1 of 2 by 50", x.copied(0, 1, 50), 1);
        D.due("1 of 2 by 51", x.copied(0, 1, 51), 0);
        D.due("the lines of b do not count", x.copied(1, 0, 15), 0);
        x.common(3, true);
        D.due("1 of 1 by 100", x.copied(0, 1, 100), 1);
        x.common(1, true);
        D.due("all are common", x.copied(0, 0, 1), 0);
    }

    private static void count() {
        CopyRegister x = new CopyRegister();
        x.days(9);
        for (int i = 0; i < 5; i++) {
            x.person();
        }
        x.act(9, 10, -1, 0, 16);
        x.act(10, 10, -1, 0, 16);
        for (int i = 0; i < 4; i++) {
            x.work(0);
        }
        x.agree(0, 0, true);
        x.license(0, 0, 0, 0, 0);
        for (int i = 1; i <= 7; i++) {
            x.common(i, true);
        }
        D.due("THE DAY", x.count(0), 9);
        D.due("PERSONS", x.count(1), 5);
        D.due("ACTS", x.count(2), 2);
        D.due("WORKS", x.count(3), 4);
        D.due("LICENCES", x.count(4), 1);
        D.due("COMMON lines", x.count(5), 7);
        D.due("-1", x.count(-1), BAD);
        D.due("6", x.count(6), BAD);
        D.due("max", x.count(Integer.MAX_VALUE), BAD);
        D.due("min", x.count(Integer.MIN_VALUE), BAD);
    }
}
