/** Promises 11 to 14: sell, pledge, redeem, held. */
final class SharesSentences {
    private static final int BAD = CopyRegister.BAD, NOT = CopyRegister.NOT;
    private static final String FIRST_THAT_FITS = "Refused, and nothing changes, the first that fits";

    private final Sentences s;
    /** Three persons, a work of person 0. */
    private final Told owned;
    /** All that there can be: 12 persons, 20 works of person 5. */
    private final Told most;

    SharesSentences(Sentences s) {
        this.s = s;
        owned = s.told("person() person() person() work(0)");
        most = s.told("person() ".repeat(12) + "work(5) ".repeat(20));
    }

    void test() {
        sellNumbers();
        sellFromAndTo();
        sellToItself();
        sellWhatIsNotPledged();
        sellToTheDead();
        sellFirstThatFits();
        pledgeNumbers();
        pledgeToAnother();
        pledgeNoMoreThanThereAre();
        pledgedStay();
        pledgeFirstThatFits();
        redeemNumbers();
        redeemAll();
        redeemNone();
        heldNumbers();
        heldNotBeforeEntry();
        heldAtEntry();
        heldAtTheEndOfTheDay();
    }

    private void sellNumbers() {
        s.of(11, "n SHARES (1 .. 16) are SOLD: 1.");
        s.edges(owned, "sell(0, 0, 1, #)", 1, 16, 1);
        s.refusesEach(owned, BAD, "sell(0, 0, 1, -16)", "sell(0, 0, 1, 2147483632)", "sell(0, 0, 1, -2147483632)");
        s.answers(s.told(owned, "sell(0, 0, 1, 1)"), "held(0, 0, 0)", 15);
        s.answers(s.told(owned, "sell(0, 0, 1, 1)"), "held(0, 1, 0)", 1);
        s.answers(s.told(owned, "sell(0, 0, 1, 16)"), "held(0, 0, 0)", 0);
        s.answers(s.told(owned, "sell(0, 0, 1, 16)"), "held(0, 1, 0)", 16);
    }

    private void sellFromAndTo() {
        s.of(11, "SOLD: so many from one PERSON to another one.");
        s.edges(owned, "sell(#, 0, 1, 1)", 0, 0, 1);
        s.edges(most, "sell(#, 5, 1, 1)", 0, 19, 1);
        s.outside(owned, "sell(0, #, 1, 1)", 0, 2);
        s.outside(owned, "sell(0, 0, #, 1)", 0, 2);
        s.outside(most, "sell(0, #, 5, 1)", 0, 11);
        s.edges(most, "sell(0, 5, #, 16)", 0, 11, 1);
        s.answers(s.told(most, "sell(19, 5, 11, 16)"), "sell(19, 11, 0, 16)", 1);
        s.answers(s.told(most, "sell(19, 5, 0, 16)"), "sell(19, 0, 11, 16)", 1);
        s.refusesEach(owned, BAD, "sell(0, NOBODY, 1, 1)", "sell(0, 0, NOBODY, 1)");
        s.refuses(s.told(owned, "death(0, 0)"), "sell(0, NOBODY, 1, 1)", BAD);
    }

    private void sellToItself() {
        s.of(11, "BAD: also to itself");
        s.refusesEach(owned, BAD, "sell(0, 0, 0, 1)", "sell(0, 0, 0, 16)", "sell(0, 2, 2, 1)", "sell(0, 3, 3, 1)");
        s.refuses(most, "sell(19, 11, 11, 1)", BAD);
    }

    private void sellWhatIsNotPledged() {
        s.of(11, "NOT: there are not so many that are not PLEDGED");
        s.refuses(owned, "sell(0, 1, 0, 1)", NOT);
        Told fifteen = s.told(owned, "sell(0, 0, 1, 1)");
        s.answers(fifteen, "sell(0, 0, 1, 15)", 1);
        s.refuses(fifteen, "sell(0, 0, 1, 16)", NOT);
        s.answers(fifteen, "sell(0, 1, 2, 1)", 1);
        s.refuses(fifteen, "sell(0, 1, 2, 2)", NOT);
        Told pledged = s.told(owned, "pledge(0, 0, 1, 4) pledge(0, 0, 2, 2)");
        s.answers(pledged, "sell(0, 0, 1, 10)", 1);
        s.refusesEach(pledged, NOT, "sell(0, 0, 1, 11)", "sell(0, 0, 1, 16)", "sell(0, 1, 2, 1)");
        Told allPledged = s.told(owned, "pledge(0, 0, 1, 16)");
        s.refusesEach(allPledged, NOT, "sell(0, 0, 1, 1)", "sell(0, 0, 2, 1)", "sell(0, 1, 2, 1)");
        s.answers(s.told(allPledged, "redeem(0, 0, 1)"), "sell(0, 0, 1, 16)", 1);
    }

    private void sellToTheDead() {
        s.of(11, "or the buyer is told dead.");
        Told dead = s.told(owned, "work(0) days(3) death(1, 3)");
        s.refusesEach(dead, NOT, "sell(0, 0, 1, 1)", "sell(0, 0, 1, 16)", "sell(0, 2, 1, 1)");
        s.answers(dead, "sell(0, 0, 2, 16)", 1);
        s.refuses(s.told(owned, "death(0, 0)"), "sell(0, 0, 1, 1)", NOT);
    }

    private void sellFirstThatFits() {
        s.of(11, FIRST_THAT_FITS);
        Told dead = s.told(owned, "death(1, 0)");
        s.refusesEach(dead, BAD, "sell(0, 0, 1, 0)", "sell(0, 0, 1, 17)", "sell(1, 0, 1, 1)", "sell(-1, 0, 1, 1)",
                "sell(0, 3, 1, 1)", "sell(0, -1, 1, 1)", "sell(0, 1, 1, 1)");
        s.refusesEach(owned, BAD, "sell(0, 1, 0, 0)", "sell(0, 1, 0, 17)", "sell(0, 1, 3, 1)", "sell(0, 1, -1, 1)",
                "sell(1, 1, 0, 1)", "sell(0, 1, 1, 16)");
        Told allPledged = s.told(owned, "pledge(0, 0, 1, 16)");
        s.refusesEach(allPledged, BAD, "sell(0, 0, 1, 17)", "sell(0, 0, 0, 1)");
    }

    private void pledgeNumbers() {
        s.of(12, "n SHARES more are PLEDGED by a PERSON to another one: how many it has PLEDGED of that WORK in all.");
        s.answers(owned, "pledge(0, 0, 1, 1)", 1);
        s.answers(owned, "pledge(0, 0, 1, 16)", 16);
        s.outside(owned, "pledge(0, 0, 1, #)", 1, 16);
        Told some = s.told(owned, "work(0) pledge(0, 0, 1, 3) pledge(1, 0, 1, 5)");
        s.outside(some, "pledge(0, 0, 1, #)", 1, 16);
        s.answers(some, "pledge(0, 0, 1, 1)", 4);
        s.answers(some, "pledge(0, 0, 2, 1)", 4);
        s.answers(some, "pledge(1, 0, 2, 11)", 16);
        s.edges(owned, "pledge(#, 0, 1, 1)", 0, 0, 1);
        s.edges(most, "pledge(#, 5, 1, 1)", 0, 19, 1);
        s.outside(owned, "pledge(0, #, 1, 1)", 0, 2);
        s.outside(most, "pledge(0, #, 5, 1)", 0, 11);
    }

    private void pledgeToAnother() {
        s.of(12, "a PERSON may PLEDGE SHARES to another one");
        s.outside(owned, "pledge(0, 0, #, 1)", 0, 2);
        s.edges(most, "pledge(0, 5, #, 16)", 0, 11, 16);
        s.answers(s.told(most, "sell(19, 5, 11, 16)"), "pledge(19, 11, 0, 16)", 16);
        s.refusesEach(owned, BAD, "pledge(0, 0, 0, 1)", "pledge(0, 0, 0, 16)", "pledge(0, 1, 1, 1)",
                "pledge(0, NOBODY, 1, 1)", "pledge(0, 0, NOBODY, 1)");
        s.answers(s.told(owned, "death(1, 0)"), "pledge(0, 0, 1, 1)", 1);
    }

    private void pledgeNoMoreThanThereAre() {
        s.of(12, "NOT: there are not so many.");
        s.refuses(owned, "pledge(0, 1, 0, 1)", NOT);
        Told fifteen = s.told(owned, "pledge(0, 0, 1, 15)");
        s.answers(fifteen, "pledge(0, 0, 1, 1)", 16);
        s.answers(fifteen, "pledge(0, 0, 2, 1)", 16);
        s.refusesEach(fifteen, NOT, "pledge(0, 0, 1, 2)", "pledge(0, 0, 2, 16)");
        Told sold = s.told(owned, "sell(0, 0, 1, 6)");
        s.answers(sold, "pledge(0, 0, 1, 10)", 10);
        s.refuses(sold, "pledge(0, 0, 1, 11)", NOT);
        s.answers(sold, "pledge(0, 1, 0, 6)", 6);
        s.refuses(sold, "pledge(0, 1, 0, 7)", NOT);
        s.refuses(s.told(owned, "death(0, 0)"), "pledge(0, 0, 1, 1)", NOT);
    }

    private void pledgedStay() {
        s.of(12, "they stay with it, but may not be SOLD, or PLEDGED again, until REDEEMED.");
        Told allPledged = s.told(owned, "pledge(0, 0, 1, 16)");
        s.answers(allPledged, "held(0, 0, 0)", 16);
        s.answers(allPledged, "held(0, 1, 0)", 0);
        s.answers(allPledged, "sell(0, 0, 1, 1)", NOT);
        s.refusesEach(allPledged, NOT, "pledge(0, 0, 1, 1)", "pledge(0, 0, 2, 1)", "pledge(0, 1, 2, 1)");
        Told redeemed = s.told(allPledged, "redeem(0, 0, 1)");
        s.answers(redeemed, "sell(0, 0, 1, 16)", 1);
        s.answers(redeemed, "pledge(0, 0, 2, 16)", 16);
    }

    private void pledgeFirstThatFits() {
        s.of(12, FIRST_THAT_FITS);
        s.refusesEach(owned, BAD, "pledge(0, 1, 0, 0)", "pledge(0, 1, 0, 17)", "pledge(0, 1, 1, 1)",
                "pledge(1, 1, 0, 1)", "pledge(0, 1, 3, 1)", "pledge(0, 1, -1, 1)");
        s.refusesEach(s.told(owned, "pledge(0, 0, 1, 16)"), BAD, "pledge(0, 0, 1, 17)", "pledge(0, 0, 1, 0)",
                "pledge(0, 0, 0, 1)", "pledge(0, 0, 3, 1)");
    }

    private void redeemNumbers() {
        s.of(13, "All that a PERSON PLEDGED to another one of a WORK is REDEEMED: how many. BAD");
        Told some = s.told(owned, "pledge(0, 0, 1, 4)");
        s.edges(some, "redeem(#, 0, 1)", 0, 0, 4);
        s.outside(some, "redeem(0, #, 1)", 0, 2);
        s.outside(some, "redeem(0, 0, #)", 0, 2);
        s.refusesEach(some, BAD, "redeem(0, NOBODY, 1)", "redeem(0, 0, NOBODY)", "redeem(0, 0, 0)", "redeem(0, 1, 1)");
        Told last = s.told(most, "sell(19, 5, 11, 16) pledge(19, 11, 0, 16) pledge(0, 5, 11, 1)");
        s.answers(last, "redeem(19, 11, 0)", 16);
        s.answers(last, "redeem(0, 5, 11)", 1);
        s.outside(last, "redeem(#, 11, 0)", 0, 19);
        s.outside(last, "redeem(19, #, 0)", 0, 11);
        s.outside(last, "redeem(19, 11, #)", 0, 11);
    }

    private void redeemAll() {
        s.of(13, "All that a PERSON PLEDGED to another one");
        Told some = s.told(owned, "work(0) pledge(0, 0, 1, 4) pledge(0, 0, 2, 7) pledge(0, 0, 1, 1) pledge(1, 0, 1, 9)");
        s.answers(some, "redeem(0, 0, 1)", 5);
        s.answers(some, "redeem(0, 0, 2)", 7);
        s.answers(some, "redeem(1, 0, 1)", 9);
        Told redeemed = s.told(some, "redeem(0, 0, 1)");
        s.answers(redeemed, "redeem(0, 0, 2)", 7);
        s.answers(redeemed, "pledge(0, 0, 1, 9)", 16);
        s.answers(redeemed, "pledge(0, 0, 1, 10)", NOT);
    }

    private void redeemNone() {
        s.of(13, "NOT: none are.");
        s.refusesEach(owned, NOT, "redeem(0, 0, 1)", "redeem(0, 1, 0)", "redeem(0, 2, 1)");
        Told some = s.told(owned, "work(0) pledge(0, 0, 1, 16)");
        s.refusesEach(some, NOT, "redeem(0, 1, 0)", "redeem(0, 0, 2)", "redeem(1, 0, 1)");
        s.refuses(s.told(some, "redeem(0, 0, 1)"), "redeem(0, 0, 1)", NOT);
        s.refuses(s.told(some, "death(0, 0)"), "redeem(0, 0, 1)", NOT);
        s.of(13, FIRST_THAT_FITS);
        s.refusesEach(owned, BAD, "redeem(1, 0, 1)", "redeem(-1, 0, 1)", "redeem(0, 3, 1)", "redeem(0, 0, 3)");
    }

    private void heldNumbers() {
        s.of(14, "SHARES that a PERSON (or NOBODY) HELD on t (0 .. THE DAY).");
        s.edges(owned, "held(0, 0, #)", 0, 0, 16);
        s.edges(s.told(owned, "days(10)"), "held(0, 0, #)", 0, 10, 16);
        s.edges(s.told(owned, "days(500) ".repeat(6)), "held(0, 0, #)", 0, 3000, 16);
        s.edges(owned, "held(#, 0, 0)", 0, 0, 16);
        s.edges(most, "held(#, 5, 0)", 0, 19, 16);
        s.outside(owned, "held(0, #, 0)", 0, 2);
        s.edges(most, "held(0, #, 0)", 0, 11, 0);
        s.refusesEach(owned, BAD, "held(0, -2, 0)", "held(0, -3, 0)", "held(0, -4, 0)", "held(0, -6, 0)");
        s.edges(owned, "held(0, NOBODY, #)", 0, 0, 0);
        s.edges(owned, "held(#, NOBODY, 0)", 0, 0, 0);
        s.answers(s.told(owned, "death(0, 0)"), "held(0, NOBODY, 0)", 16);
    }

    private void heldNotBeforeEntry() {
        s.of(14, "BAD: also t before ENTRY.");
        Told late = s.told(owned, "days(10) work(1) days(5)");
        s.edges(late, "held(1, 1, #)", 10, 15, 16);
        s.edges(late, "held(1, NOBODY, #)", 10, 15, 0);
        s.refusesEach(late, BAD, "held(1, 1, 0)", "held(1, 0, 9)");
        s.answers(late, "held(0, 0, 9)", 16);
        Told sameDay = s.told(owned, "days(10) work(1)");
        s.edges(sameDay, "held(1, 1, #)", 10, 10, 16);
    }

    private void heldAtEntry() {
        s.of(14, "A WORK has 16 SHARES; all are the AUTHOR's at ENTRY.");
        s.answers(owned, "held(0, 0, 0)", 16);
        s.answers(owned, "held(0, 1, 0)", 0);
        s.answers(owned, "held(0, NOBODY, 0)", 0);
        s.answers(most, "held(19, 11, 0)", 0);
        s.answers(s.told("person() ".repeat(12) + "work(11)"), "held(0, 11, 0)", 16);
    }

    private void heldAtTheEndOfTheDay() {
        s.of(14, "as they were at the end of that DAY (of THE DAY: now)");
        Told first = s.told(owned, "sell(0, 0, 1, 3)");
        s.answers(first, "held(0, 1, 0)", 3);
        Told twice = s.told(first, "sell(0, 1, 2, 1) sell(0, 0, 1, 5) days(10)");
        s.answers(twice, "held(0, 1, 0)", 7);
        s.answers(twice, "held(0, 1, 10)", 7);
        Told later = s.told(twice, "sell(0, 1, 0, 7) days(1)");
        s.answers(later, "held(0, 1, 9)", 7);
        s.answers(later, "held(0, 1, 10)", 0);
        s.answers(later, "held(0, 0, 9)", 8);
        s.answers(later, "held(0, 0, 10)", 15);
        s.answers(later, "held(0, 0, 11)", 15);
        Told dead = s.told(later, "death(0, 0) days(1)");
        s.answers(dead, "held(0, 0, 0)", 8);
        s.answers(dead, "held(0, 0, 10)", 15);
        s.answers(dead, "held(0, 0, 11)", 0);
        s.answers(dead, "held(0, NOBODY, 10)", 0);
        s.answers(dead, "held(0, NOBODY, 11)", 15);
    }
}
