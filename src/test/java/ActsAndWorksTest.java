/** Promises 7 to 10: act, work, end, inRight. */
public final class ActsAndWorksTest {
    private static final int BAD = CopyRegister.BAD, NOT = CopyRegister.NOT, FULL = CopyRegister.FULL;
    private static final int NONE = CopyRegister.NONE;
    private static final Due D = new Due("ActsAndWorksTest");

    public static void main(String[] args) {
        actBounds();
        actDays();
        actsFull();
        works();
        worksFull();
        endRefusals();
        endByTheActOfEntry();
        endByLife();
        endLengthened();
        endRevived();
        actsForNewWorksAlone();
        inRightRefusals();
        inRightOrdinary();
        daysLeftFree();
        D.close();
    }

    private static CopyRegister withAuthor() {
        CopyRegister x = new CopyRegister();
        x.person();
        return x;
    }

    private static void actBounds() {
        CopyRegister x = new CopyRegister();
        D.due("fix -1", x.act(0, -1, 0, 0, 1), BAD);
        D.due("fix 2001", x.act(0, 2001, 0, 0, 1), BAD);
        D.due("life -2", x.act(0, 0, -2, 0, 1), BAD);
        D.due("life 2001", x.act(0, 0, 2001, 0, 1), BAD);
        D.due("way -1", x.act(0, 0, 0, -1, 1), BAD);
        D.due("way 3", x.act(0, 0, 0, 3, 1), BAD);
        D.due("consent 0", x.act(0, 0, 0, 0, 0), BAD);
        D.due("consent 17", x.act(0, 0, 0, 0, 17), BAD);
        D.due("day -1", x.act(-1, 0, 0, 0, 1), BAD);
        D.due("day 3001", x.act(3001, 0, 0, 0, 1), BAD);
        D.due("refusals change nothing", x.count(2), 0);
        D.due("least", x.act(0, 0, -1, 0, 1), 0);
        D.due("greatest", x.act(3000, 2000, 2000, 2, 16), 1);
        D.due("count(2)", x.count(2), 2);
    }

    private static void actDays() {
        CopyRegister x = new CopyRegister();
        x.days(10);
        D.due("before THE DAY", x.act(9, 1, 1, 1, 1), BAD);
        D.due("on THE DAY", x.act(10, 1, 1, 1, 1), 0);
        D.due("on that of the act ahead", x.act(10, 1, 1, 1, 1), BAD);
        D.due("far ahead", x.act(20, 1, 1, 1, 1), 1);
        D.due("between the two", x.act(15, 1, 1, 1, 1), BAD);
        D.due("one behind", x.act(21, 1, 1, 1, 1), 2);
    }

    private static void actsFull() {
        CopyRegister x = new CopyRegister();
        for (int i = 0; i < 6; i++) {
            D.due("act", x.act(i, 0, 0, 0, 1), i);
        }
        D.due("the 7th", x.act(6, 0, 0, 0, 1), FULL);
        D.due("BAD goes first", x.act(5, 0, 0, 0, 1), BAD);
        D.due("count(2)", x.count(2), 6);
    }

    private static void works() {
        CopyRegister x = withAuthor();
        x.person();
        D.due("no such author", x.work(2), BAD);
        D.due("author -1", x.work(-1), BAD);
        D.due("NOBODY is no author", x.work(CopyRegister.NOBODY), BAD);
        x.days(3);
        D.due("a work", x.work(1), 0);
        D.due("all shares are the author's", x.held(0, 1, 3), 16);
        D.due("none are another's", x.held(0, 0, 3), 0);
        D.due("entered at THE DAY", x.end(0, 3), 3);
        x.death(1, 0);
        D.due("a dead author", x.work(1), NOT);
        D.due("count(3)", x.count(3), 1);
        D.due("a living one", x.work(0), 1);
    }

    private static void worksFull() {
        CopyRegister x = withAuthor();
        x.person();
        for (int i = 0; i < 20; i++) {
            D.due("work", x.work(0), i);
        }
        D.due("the 21st", x.work(0), FULL);
        D.due("the last is there", x.held(19, 0, 0), 16);
        x.death(1, 0);
        D.due("NOT goes before FULL", x.work(1), NOT);
        D.due("BAD goes first", x.work(2), BAD);
        D.due("count(3)", x.count(3), 20);
    }

    private static void endRefusals() {
        CopyRegister x = withAuthor();
        x.days(5);
        x.work(0);
        D.due("k before entry", x.end(0, 4), BAD);
        D.due("k at entry", x.end(0, 5), 5);
        D.due("k = 3000", x.end(0, 3000), 5);
        D.due("k = 3001", x.end(0, 3001), BAD);
        D.due("k = -1", x.end(0, -1), BAD);
        D.due("no such work", x.end(1, 5), BAD);
        D.due("work -1", x.end(-1, 5), BAD);
    }

    private static void endByTheActOfEntry() {
        CopyRegister x = withAuthor();
        x.act(10, 7, -1, 2, 1);
        x.act(20, 9, -1, 1, 1);
        x.days(9);
        x.work(0);
        x.days(1);
        x.work(0);
        x.days(9);
        x.work(0);
        x.days(1);
        x.work(0);
        D.due("without an act in force: entry", x.end(0, 9), 9);
        D.due("in force on its first day", x.end(1, 10), 17);
        D.due("in force on its last day", x.end(2, 19), 26);
        D.due("lengthened on day 20", x.end(2, 20), 28);
        D.due("the next act", x.end(3, 20), 29);
        x.work(0);
        D.due("day 20 again", x.end(4, 20), 29);
    }

    private static void endByLife() {
        CopyRegister x = withAuthor();
        x.person();
        x.act(0, 50, 30, 0, 1);
        x.days(10);
        x.work(0);
        x.work(1);
        D.due("no death: it goes on", x.end(0, 10), NONE);
        D.due("also at the last day", x.end(0, 3000), NONE);
        x.days(90);
        x.death(0, 20);
        x.death(1, 40);
        D.due("not learnt yet", x.end(0, 99), NONE);
        D.due("fix is later", x.end(0, 100), 60);
        D.due("life is later", x.end(1, 100), 70);
        CopyRegister y = withAuthor();
        y.act(0, 0, 0, 0, 1);
        y.days(5);
        y.work(0);
        y.death(0, 2);
        D.due("fix 0, life 0, died before entry", y.end(0, 5), 5);
        CopyRegister z = withAuthor();
        z.act(0, 2000, 2000, 0, 1);
        for (int i = 0; i < 6; i++) {
            z.days(500);
        }
        z.work(0);
        z.death(0, 3000);
        D.due("the latest of all ends", z.end(0, 3000), 5000);
    }

    private static void endLengthened() {
        CopyRegister x = withAuthor();
        x.act(0, 20, -1, 0, 1);
        x.work(0);
        x.days(1);
        x.work(0);
        x.act(21, 100, -1, 1, 1);
        D.due("ended the day before: stays", x.end(0, 21), 20);
        D.due("ends on the act's day: lengthened", x.end(1, 21), 101);
        D.due("not known before", x.end(1, 20), 21);
        D.due("known later", x.end(1, 22), 101);
        x.act(30, 5, -1, 1, 1);
        D.due("never made shorter", x.end(1, 30), 101);
        x.act(40, 0, 10, 1, 1);
        D.due("goes on by life", x.end(1, 40), NONE);
        D.due("an ended one does not", x.end(0, 40), 20);
        x.act(50, 0, -1, 1, 1);
        D.due("what goes on stays so", x.end(1, 50), NONE);
        x.days(100);
        x.death(0, 95);
        D.due("then the death is known", x.end(1, 101), 105);
        D.due("a day before it was not", x.end(1, 100), NONE);
    }

    private static void endRevived() {
        CopyRegister x = withAuthor();
        x.act(0, 10, -1, 0, 1);
        x.work(0);
        x.act(50, 100, -1, 2, 1);
        D.due("before the act", x.end(0, 49), 10);
        D.due("revived", x.end(0, 50), 100);
        x.act(60, 20, -1, 2, 1);
        D.due("never made shorter", x.end(0, 60), 100);
        x.act(100, 300, -1, 1, 1);
        D.due("lengthened on its last day", x.end(0, 100), 300);
        CopyRegister y = withAuthor();
        y.work(0);
        y.act(5, 3, -1, 2, 1);
        y.act(6, 40, -1, 1, 1);
        D.due("revived to a day gone by", y.end(0, 5), 3);
        D.due("so not lengthened", y.end(0, 6), 3);
    }

    private static void actsForNewWorksAlone() {
        CopyRegister x = withAuthor();
        x.act(0, 10, -1, 0, 1);
        x.work(0);
        x.act(5, 500, -1, 0, 1);
        D.due("an old work", x.end(0, 5), 10);
        x.days(5);
        x.work(0);
        D.due("a new one", x.end(1, 5), 505);
    }

    private static void inRightRefusals() {
        CopyRegister x = withAuthor();
        x.days(5);
        x.work(0);
        D.due("t = -1", x.inRight(0, -1, 5), BAD);
        D.due("t = 3001", x.inRight(0, 3001, 5), BAD);
        D.due("k = -1", x.inRight(0, 5, -1), BAD);
        D.due("k = 3001", x.inRight(0, 5, 3001), BAD);
        D.due("k before entry", x.inRight(0, 5, 4), BAD);
        D.due("no such work", x.inRight(1, 5, 5), BAD);
        D.due("work -1", x.inRight(-1, 5, 5), BAD);
        D.due("t before entry is no fault", x.inRight(0, 4, 5), 0);
        D.due("t = 0", x.inRight(0, 0, 5), 0);
        D.due("t = 3000", x.inRight(0, 3000, 3000), 0);
        D.due("its own day", x.inRight(0, 5, 5), 1);
    }

    private static void inRightOrdinary() {
        CopyRegister x = withAuthor();
        x.act(0, 10, -1, 0, 1);
        x.act(100, 10, 10, 0, 1);
        x.work(0);
        D.due("first day", x.inRight(0, 0, 0), 1);
        D.due("last day", x.inRight(0, 10, 0), 1);
        D.due("a day too late", x.inRight(0, 11, 0), 0);
        x.days(100);
        x.work(0);
        D.due("it goes on", x.inRight(1, 3000, 100), 1);
        D.due("not before entry", x.inRight(1, 99, 100), 0);
        x.days(50);
        x.death(0, 120);
        D.due("as known before", x.inRight(1, 131, 149), 1);
        D.due("as known then", x.inRight(1, 131, 150), 0);
        D.due("the last day by life", x.inRight(1, 130, 150), 1);
    }

    private static void daysLeftFree() {
        CopyRegister x = withAuthor();
        x.act(0, 10, -1, 0, 1);
        x.work(0);
        x.act(20, 40, -1, 2, 1);
        x.act(60, 100, -1, 2, 1);
        int[] inRight = {0, 10, 20, 40, 60, 100};
        int[] free = {11, 19, 41, 59, 101};
        for (int t : inRight) {
            D.due("in right on " + t, x.inRight(0, t, 60), 1);
        }
        for (int t : free) {
            D.due("free on " + t, x.inRight(0, t, 60), 0);
        }
        D.due("before the second was known", x.inRight(0, 60, 59), 0);
        D.due("before the first was known", x.inRight(0, 20, 19), 0);

        CopyRegister y = withAuthor();
        y.act(0, 10, -1, 0, 1);
        y.work(0);
        y.act(20, 15, -1, 2, 1);
        y.act(21, 30, -1, 2, 1);
        D.due("END moved, but ahead of the act", y.end(0, 20), 15);
        D.due("so day 12 stays free", y.inRight(0, 12, 20), 0);
        D.due("also with the next act", y.inRight(0, 12, 21), 0);
        D.due("and day 20", y.inRight(0, 20, 21), 0);
        D.due("but not day 21", y.inRight(0, 21, 21), 1);
        D.due("nor day 10", y.inRight(0, 10, 21), 1);

        CopyRegister z = withAuthor();
        z.act(0, 10, -1, 0, 1);
        z.work(0);
        z.act(11, 30, -1, 2, 1);
        D.due("no day between END and the act", z.inRight(0, 10, 11) + z.inRight(0, 11, 11), 2);
        CopyRegister w = withAuthor();
        w.act(0, 10, -1, 0, 1);
        w.work(0);
        w.act(10, 30, -1, 2, 1);
        D.due("END on the act's day leaves none free", w.inRight(0, 10, 10) + w.inRight(0, 11, 10), 2);
        lifeThatLapsedAsKnownLater();
        revivedByTheFirstOfAllActs();
    }

    private static void revivedByTheFirstOfAllActs() {
        CopyRegister x = withAuthor();
        x.work(0);
        x.act(20, 40, -1, 2, 1);
        D.due("its own day", x.inRight(0, 0, 20), 1);
        D.due("the first day free", x.inRight(0, 1, 20), 0);
        D.due("the last day free", x.inRight(0, 19, 20), 0);
        D.due("revived", x.inRight(0, 20, 20), 1);
    }

    private static void lifeThatLapsedAsKnownLater() {
        CopyRegister x = withAuthor();
        x.act(0, 5, 5, 0, 1);
        x.work(0);
        x.act(50, 5, 80, 2, 1);
        x.days(60);
        D.due("nothing lapsed as known at 59", x.inRight(0, 30, 59), 1);
        x.death(0, 20);
        D.due("still as known at 59", x.inRight(0, 30, 59), 1);
        D.due("lapsed as known at 60", x.inRight(0, 30, 60), 0);
        D.due("its last day before", x.inRight(0, 25, 60), 1);
        D.due("the first day free", x.inRight(0, 26, 60), 0);
        D.due("the last day free", x.inRight(0, 49, 60), 0);
        D.due("revived", x.inRight(0, 50, 60), 1);
        D.due("till", x.inRight(0, 100, 60), 1);
        D.due("no longer", x.inRight(0, 101, 60), 0);
    }
}
