/** Promises 11 to 14: sell, pledge, redeem, held. */
public final class SharesTest {
    private static final int BAD = CopyRegister.BAD, NOT = CopyRegister.NOT, NOBODY = CopyRegister.NOBODY;
    private static final Due D = new Due("SharesTest");

    public static void main(String[] args) {
        sellRefusals();
        sellOrdinary();
        sellAndPledges();
        sellToTheDead();
        pledgeRefusals();
        pledgeOrdinary();
        redeem();
        heldRefusals();
        heldOnEarlierDays();
        worksAreApart();
        D.close();
    }

    /** Three persons, one work of person 0, entered on day 0. */
    private static CopyRegister withWork() {
        CopyRegister x = new CopyRegister();
        x.person();
        x.person();
        x.person();
        x.work(0);
        return x;
    }

    private static void sellRefusals() {
        CopyRegister x = withWork();
        D.due("no such work", x.sell(1, 0, 1, 1), BAD);
        D.due("work -1", x.sell(-1, 0, 1, 1), BAD);
        D.due("no such seller", x.sell(0, 3, 1, 1), BAD);
        D.due("NOBODY does not sell", x.sell(0, NOBODY, 1, 1), BAD);
        D.due("no such buyer", x.sell(0, 0, 3, 1), BAD);
        D.due("NOBODY does not buy", x.sell(0, 0, NOBODY, 1), BAD);
        D.due("to itself", x.sell(0, 0, 0, 1), BAD);
        D.due("n = 0", x.sell(0, 0, 1, 0), BAD);
        D.due("n = 17", x.sell(0, 0, 1, 17), BAD);
        D.due("n = -1", x.sell(0, 0, 1, -1), BAD);
        D.due("has none", x.sell(0, 1, 0, 1), NOT);
        D.due("BAD goes first", x.sell(0, 1, 0, 17), BAD);
        D.due("refusals change nothing", x.held(0, 0, 0), 16);
    }

    private static void sellOrdinary() {
        CopyRegister x = withWork();
        D.due("one", x.sell(0, 0, 1, 1), 1);
        D.due("16 are no more there", x.sell(0, 0, 1, 16), NOT);
        D.due("the other 15", x.sell(0, 0, 2, 15), 1);
        D.due("seller", x.held(0, 0, 0), 0);
        D.due("first buyer", x.held(0, 1, 0), 1);
        D.due("second buyer", x.held(0, 2, 0), 15);
        D.due("sold back", x.sell(0, 2, 0, 15), 1);
        D.due("and on", x.sell(0, 1, 0, 1), 1);
        D.due("all are back", x.held(0, 0, 0), 16);
        D.due("all 16 at once", x.sell(0, 0, 2, 16), 1);
        D.due("all are there", x.held(0, 2, 0), 16);
    }

    private static void sellAndPledges() {
        CopyRegister x = withWork();
        x.pledge(0, 0, 2, 6);
        D.due("one too many", x.sell(0, 0, 1, 11), NOT);
        D.due("all that are free", x.sell(0, 0, 1, 10), 1);
        D.due("pledged ones stay", x.held(0, 0, 0), 6);
        D.due("the pledgee does not hold them", x.held(0, 2, 0), 0);
        D.due("nor may it sell them", x.sell(0, 2, 1, 1), NOT);
        D.due("the buyer's are free", x.sell(0, 1, 2, 10), 1);
    }

    private static void sellToTheDead() {
        CopyRegister x = withWork();
        x.death(1, 0);
        D.due("to a dead one", x.sell(0, 0, 1, 1), NOT);
        D.due("BAD goes first", x.sell(0, 0, 1, 0), BAD);
        D.due("to a living one", x.sell(0, 0, 2, 1), 1);
        x.heir(0, 2);
        x.death(0, 0);
        D.due("a dead one has none to sell", x.sell(0, 0, 2, 1), NOT);
    }

    private static void pledgeRefusals() {
        CopyRegister x = withWork();
        D.due("no such work", x.pledge(1, 0, 1, 1), BAD);
        D.due("work -1", x.pledge(-1, 0, 1, 1), BAD);
        D.due("no such person", x.pledge(0, 3, 1, 1), BAD);
        D.due("no such pledgee", x.pledge(0, 0, 3, 1), BAD);
        D.due("NOBODY does not pledge", x.pledge(0, NOBODY, 1, 1), BAD);
        D.due("not to NOBODY", x.pledge(0, 0, NOBODY, 1), BAD);
        D.due("to another one", x.pledge(0, 0, 0, 1), BAD);
        D.due("n = 0", x.pledge(0, 0, 1, 0), BAD);
        D.due("n = -1", x.pledge(0, 0, 1, -1), BAD);
        D.due("n = 17", x.pledge(0, 0, 1, 17), BAD);
        D.due("has none", x.pledge(0, 1, 0, 1), NOT);
        D.due("BAD goes first", x.pledge(0, 1, 0, 17), BAD);
        D.due("refusals change nothing", x.pledge(0, 0, 1, 16), 16);
    }

    private static void pledgeOrdinary() {
        CopyRegister x = withWork();
        D.due("first", x.pledge(0, 0, 1, 4), 4);
        D.due("more to the same", x.pledge(0, 0, 1, 5), 9);
        D.due("more to another: in all", x.pledge(0, 0, 2, 6), 15);
        D.due("not so many are left", x.pledge(0, 0, 2, 2), NOT);
        D.due("the last", x.pledge(0, 0, 2, 1), 16);
        D.due("none are left", x.pledge(0, 0, 1, 1), NOT);
        D.due("they stay with it", x.held(0, 0, 0), 16);
        D.due("the pledgee may not pledge them again", x.pledge(0, 1, 2, 1), NOT);
        CopyRegister y = withWork();
        y.sell(0, 0, 1, 10);
        D.due("more than it holds", y.pledge(0, 0, 1, 7), NOT);
        D.due("all it holds", y.pledge(0, 0, 1, 6), 6);
        y.death(2, 0);
        D.due("to a dead one", y.pledge(0, 1, 2, 3), 3);
        D.due("its own only", y.pledge(0, 1, 0, 2), 5);
    }

    private static void redeem() {
        CopyRegister x = withWork();
        x.pledge(0, 0, 1, 4);
        x.pledge(0, 0, 1, 2);
        x.pledge(0, 0, 2, 5);
        D.due("no such work", x.redeem(1, 0, 1), BAD);
        D.due("work -1", x.redeem(-1, 0, 1), BAD);
        D.due("no such person", x.redeem(0, 3, 1), BAD);
        D.due("no such pledgee", x.redeem(0, 0, 3), BAD);
        D.due("NOBODY pledged nothing", x.redeem(0, NOBODY, 1), BAD);
        D.due("nor to NOBODY", x.redeem(0, 0, NOBODY), BAD);
        D.due("to another one", x.redeem(0, 0, 0), BAD);
        D.due("the other way round", x.redeem(0, 1, 0), NOT);
        D.due("between two others", x.redeem(0, 1, 2), NOT);
        D.due("all to 1", x.redeem(0, 0, 1), 6);
        D.due("none are any more", x.redeem(0, 0, 1), NOT);
        D.due("they are free", x.sell(0, 0, 1, 11), 1);
        D.due("those to 2 are not", x.sell(0, 0, 1, 1), NOT);
        D.due("all to 2", x.redeem(0, 0, 2), 5);
        D.due("pledged anew", x.pledge(0, 0, 1, 5), 5);
    }

    private static void heldRefusals() {
        CopyRegister x = new CopyRegister();
        x.person();
        x.days(5);
        x.work(0);
        x.days(5);
        D.due("t before entry", x.held(0, 0, 4), BAD);
        D.due("t at entry", x.held(0, 0, 5), 16);
        D.due("t = THE DAY", x.held(0, 0, 10), 16);
        D.due("t after THE DAY", x.held(0, 0, 11), BAD);
        D.due("t = -1", x.held(0, 0, -1), BAD);
        D.due("no such work", x.held(1, 0, 5), BAD);
        D.due("work -1", x.held(-1, 0, 5), BAD);
        D.due("no such person", x.held(0, 1, 5), BAD);
        D.due("-1 is no person", x.held(0, -1, 5), BAD);
        D.due("12 is no person", x.held(0, 12, 5), BAD);
        D.due("-4 is no person", x.held(0, -4, 5), BAD);
        D.due("-6 is no person", x.held(0, -6, 5), BAD);
        D.due("NOBODY", x.held(0, NOBODY, 5), 0);
        D.due("NOBODY, t before entry", x.held(0, NOBODY, 4), BAD);
    }

    private static void heldOnEarlierDays() {
        CopyRegister x = withWork();
        x.sell(0, 0, 1, 3);
        x.days(10);
        x.sell(0, 0, 1, 3);
        x.sell(0, 1, 2, 1);
        x.days(10);
        x.sell(0, 1, 2, 5);
        x.days(10);
        x.heir(0, 2);
        x.death(0, 15);
        x.days(1);
        int[] days = {0, 9, 10, 19, 20, 29, 30, 31};
        int[] first = {13, 13, 10, 10, 10, 10, 0, 0};
        int[] second = {3, 3, 5, 5, 0, 0, 0, 0};
        int[] third = {0, 0, 1, 1, 6, 6, 16, 16};
        for (int i = 0; i < days.length; i++) {
            D.due("first on " + days[i], x.held(0, 0, days[i]), first[i]);
            D.due("second on " + days[i], x.held(0, 1, days[i]), second[i]);
            D.due("third on " + days[i], x.held(0, 2, days[i]), third[i]);
            D.due("NOBODY on " + days[i], x.held(0, NOBODY, days[i]), 0);
        }
        x.death(2, 0);
        D.due("now", x.held(0, NOBODY, 31), 16);
        D.due("yesterday", x.held(0, NOBODY, 30), 0);
        D.due("yesterday it was the heir's", x.held(0, 2, 30), 16);
    }

    private static void worksAreApart() {
        CopyRegister x = withWork();
        x.work(1);
        x.sell(0, 0, 2, 4);
        x.pledge(0, 0, 2, 4);
        D.due("other work, author", x.held(1, 1, 0), 16);
        D.due("other work, no author", x.held(1, 0, 0), 0);
        D.due("other work, buyer", x.held(1, 2, 0), 0);
        D.due("other work, pledges", x.pledge(1, 1, 2, 3), 3);
        D.due("this work, pledges", x.pledge(0, 0, 1, 3), 7);
        D.due("redeemed here alone", x.redeem(1, 1, 2), 3);
        D.due("there it stands", x.redeem(0, 0, 2), 4);
    }
}
