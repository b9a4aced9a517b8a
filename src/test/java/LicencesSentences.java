/** Promises 15 to 17: agree, license, may. */
final class LicencesSentences {
    private static final int BAD = CopyRegister.BAD, NOT = CopyRegister.NOT, FULL = CopyRegister.FULL;
    private static final String FIRST_THAT_FITS = "Refused, and nothing changes, the first that fits";
    private static final String THREE_PERSONS = "person() person() person() ";

    private final Sentences s;
    /** A work of person 0, in right till day 1000; 9 sixteenths consent, but no one agrees. */
    private final Told silent;
    /** The same, and person 0 agrees. */
    private final Told agreed;
    private final Told full;
    /** All that there can be: 12 persons, 20 works of person 5, which agrees to the first and the last. */
    private final Told most;

    LicencesSentences(Sentences s) {
        this.s = s;
        silent = s.told(THREE_PERSONS + "act(0, 1000, -1, 0, 9) work(0)");
        agreed = s.told(silent, "agree(0, 0, true)");
        full = s.told(agreed, "license(0, 0, 1, 0, 3000) ".repeat(40));
        most = s.told("person() ".repeat(12) + "work(5) ".repeat(20) + "agree(0, 5, true) agree(19, 5, true)");
    }

    void test() {
        agreeNumbers();
        agreeWhetherItDid();
        licenseNumbers();
        licenseUse();
        licenseFromAndTo();
        licenseInRight();
        licenseConsent();
        licenseConsentOfTheDay();
        licenseConsentOfEachWork();
        mostLicences();
        licenseFirstThatFits();
        mayNumbers();
        mayNotBeforeEntry();
        mayIfNotInRight();
        mayByLicence();
        mayByShares();
    }

    private void agreeNumbers() {
        s.of(15, "whether it did (1, 0). BAD.");
        s.edges(silent, "agree(#, 0, true)", 0, 0, 0);
        s.edges(silent, "agree(0, #, true)", 0, 2, 0);
        s.outside(agreed, "agree(#, 0, false)", 0, 0);
        s.outside(agreed, "agree(0, #, false)", 0, 2);
        s.edges(most, "agree(#, 5, true)", 0, 19, 1);
        s.edges(most, "agree(0, #, false)", 0, 11, 0);
        s.refusesEach(agreed, BAD, "agree(0, NOBODY, true)", "agree(NOBODY, 0, true)");
    }

    private void agreeWhetherItDid() {
        s.of(15, "Whether a PERSON AGREES to LICENCES of a WORK from now on: whether it did (1, 0).");
        s.answers(silent, "agree(0, 0, false)", 0);
        s.answers(silent, "agree(0, 0, true)", 0);
        s.answers(agreed, "agree(0, 0, true)", 1);
        s.answers(agreed, "agree(0, 0, false)", 1);
        s.answers(agreed, "agree(0, 1, true)", 0);
        s.answers(s.told(agreed, "agree(0, 0, false)"), "agree(0, 0, true)", 0);
        s.answers(s.told(agreed, "agree(0, 0, true)"), "agree(0, 0, false)", 1);
        s.answers(s.told(agreed, "work(0)"), "agree(1, 0, true)", 0);
        s.answers(s.told(agreed, "days(500)"), "agree(0, 0, true)", 1);
        s.answers(s.told(most, "agree(19, 11, true)"), "agree(19, 11, true)", 1);
        s.answers(s.told(agreed, "death(0, 0)"), "agree(0, 0, true)", 1);
    }

    private void licenseNumbers() {
        s.of(16, "A LICENCE is GIVEN: its number.");
        s.edges(agreed, "license(#, 0, 1, 0, 0)", 0, 0, 0);
        s.edges(agreed, "license(0, 0, #, 0, 0)", 0, 2, 0);
        s.edges(most, "license(#, 0, 1, 0, 0)", 0, 19, 0);
        s.edges(most, "license(19, 0, #, 0, 0)", 0, 11, 0);
        s.refuses(agreed, "license(0, 0, NOBODY, 0, 0)", BAD);
        s.answers(s.told(agreed, "license(0, 0, 1, 0, 0)"), "license(0, 0, 1, 0, 0)", 1);
    }

    private void licenseUse() {
        s.of(16, "A LICENCE of a WORK: USE (0 .. 3)");
        s.edges(agreed, "license(0, #, 1, 0, 0)", 0, 3, 0);
    }

    private void licenseFromAndTo() {
        s.of(16, "BAD: also to before from (0 .. 3000 each)");
        s.edges(agreed, "license(0, 0, 1, #, 3000)", 0, 3000, 0);
        s.edges(agreed, "license(0, 0, 1, 0, #)", 0, 3000, 0);
        s.edges(agreed, "license(0, 0, 1, #, 7)", 0, 7, 0);
        s.edges(agreed, "license(0, 0, 1, 7, #)", 7, 3000, 0);
        s.refusesEach(agreed, BAD, "license(0, 0, 1, 1, 0)", "license(0, 0, 1, 3000, 2999)",
                "license(0, 0, 1, 3001, 3001)", "license(0, 0, 1, -1, -1)", "license(0, 0, 1, MIN, MAX)",
                "license(0, 0, 1, MAX, MIN)", "license(0, 0, 1, MIN, MIN)", "license(0, 0, 1, MAX, MAX)");
        s.answers(s.told(agreed, "days(10)"), "license(0, 0, 1, 0, 9)", 0);
    }

    private void licenseInRight() {
        s.of(16, "if the WORK is IN RIGHT at THE DAY as KNOWN at it");
        Told work = s.told(THREE_PERSONS + "act(0, 10, -1, 0, 1) act(20, 40, -1, 2, 1) work(0) agree(0, 0, true)");
        s.answers(s.told(work, "days(10)"), "license(0, 0, 1, 0, 0)", 0);
        s.refuses(s.told(work, "days(11)"), "license(0, 0, 1, 0, 0)", NOT);
        s.refuses(s.told(work, "days(19)"), "license(0, 0, 1, 0, 0)", NOT);
        s.answers(s.told(work, "days(20)"), "license(0, 0, 1, 0, 0)", 0);
        s.answers(s.told(work, "days(40)"), "license(0, 0, 1, 0, 0)", 0);
        s.refuses(s.told(work, "days(41)"), "license(0, 0, 1, 0, 0)", NOT);
        Told noAct = s.told(THREE_PERSONS + "work(0) agree(0, 0, true)");
        s.answers(noAct, "license(0, 0, 1, 0, 0)", 0);
        s.refuses(s.told(noAct, "days(1)"), "license(0, 0, 1, 0, 0)", NOT);
        Told life = s.told(THREE_PERSONS + "act(0, 0, 5, 0, 1) work(0) sell(0, 0, 1, 16) agree(0, 1, true) days(20)");
        s.answers(life, "license(0, 0, 2, 0, 0)", 0);
        s.answers(s.told(life, "death(0, 15)"), "license(0, 0, 2, 0, 0)", 0);
        s.refuses(s.told(life, "death(0, 14)"), "license(0, 0, 2, 0, 0)", NOT);
    }

    private void licenseConsent() {
        s.of(16, "NOT: it is not IN RIGHT, or consent is wanting");
        s.refuses(silent, "license(0, 0, 1, 0, 0)", NOT);
        s.answers(agreed, "license(0, 0, 1, 0, 0)", 0);
        s.answers(s.told(agreed, "sell(0, 0, 1, 7)"), "license(0, 0, 1, 0, 0)", 0);
        s.refuses(s.told(agreed, "sell(0, 0, 1, 8)"), "license(0, 0, 1, 0, 0)", NOT);
        Told together = s.told(silent, "sell(0, 0, 1, 4) sell(0, 0, 2, 5) agree(0, 1, true)");
        s.refuses(together, "license(0, 0, 1, 0, 0)", NOT);
        s.answers(s.told(together, "agree(0, 2, true)"), "license(0, 0, 1, 0, 0)", 0);
        s.refuses(s.told(together, "agree(0, 2, true) agree(0, 2, false)"), "license(0, 0, 1, 0, 0)", NOT);
        s.refuses(s.told(together, "agree(0, 2, true) sell(0, 2, 0, 1)"), "license(0, 0, 1, 0, 0)", NOT);
        s.answers(s.told(agreed, "pledge(0, 0, 1, 16)"), "license(0, 0, 1, 0, 0)", 0);
        s.refuses(s.told(agreed, "death(0, 0)"), "license(0, 0, 1, 0, 0)", NOT);
    }

    private void licenseConsentOfTheDay() {
        s.of(16, "HOLD at least CONSENT of the ACT in force at THE DAY (16 without one) SHARES of it together.");
        Told noAct = s.told(THREE_PERSONS + "work(0) agree(0, 0, true)");
        s.answers(noAct, "license(0, 0, 1, 0, 0)", 0);
        s.refuses(s.told(noAct, "sell(0, 0, 1, 1)"), "license(0, 0, 1, 0, 0)", NOT);
        s.answers(s.told(noAct, "sell(0, 0, 1, 1) agree(0, 1, true)"), "license(0, 0, 1, 0, 0)", 0);
        s.refuses(s.told(noAct, "sell(0, 0, 1, 1) act(1, 5, -1, 2, 1)"), "license(0, 0, 1, 0, 0)", NOT);
        Told acts = s.told(THREE_PERSONS + "act(0, 50, -1, 0, 1) act(10, 50, -1, 0, 16) act(20, 50, -1, 0, 15) work(0)"
                + "agree(0, 0, true) sell(0, 0, 1, 15)");
        s.answers(s.told(acts, "days(9)"), "license(0, 0, 1, 0, 0)", 0);
        s.refuses(s.told(acts, "days(10)"), "license(0, 0, 1, 0, 0)", NOT);
        s.refuses(s.told(acts, "days(20)"), "license(0, 0, 1, 0, 0)", NOT);
        Told others = s.told(acts, "agree(0, 0, false) agree(0, 1, true)");
        s.refuses(s.told(others, "days(10)"), "license(0, 0, 1, 0, 0)", NOT);
        s.refuses(s.told(others, "days(19)"), "license(0, 0, 1, 0, 0)", NOT);
        s.answers(s.told(others, "days(20)"), "license(0, 0, 1, 0, 0)", 0);
        s.answers(s.told(acts, "agree(0, 1, true) days(10)"), "license(0, 0, 1, 0, 0)", 0);
        s.refuses(s.told(acts, "sell(0, 0, 1, 1)"), "license(0, 0, 1, 0, 0)", NOT);
    }

    private void licenseConsentOfEachWork() {
        s.of(16, "PERSONS who AGREE (told, of each WORK)");
        Told second = s.told(agreed, "work(0)");
        s.answers(second, "license(0, 0, 1, 0, 0)", 0);
        s.refuses(second, "license(1, 0, 1, 0, 0)", NOT);
        s.answers(s.told(second, "agree(1, 0, true)"), "license(1, 0, 1, 0, 0)", 0);
        s.refuses(most, "license(18, 0, 1, 0, 0)", NOT);
    }

    private void mostLicences() {
        s.of(16, "SHARES of it together. 40 at most.");
        Told roomForOne = s.told(agreed, "license(0, 0, 1, 0, 3000) ".repeat(39));
        s.answers(roomForOne, "license(0, 3, 2, 0, 0)", 39);
        s.answers(s.told(roomForOne, "license(0, 3, 2, 0, 0)"), "may(0, 3, 2, 0, 0)", 1);
        s.answers(full, "count(4)", 40);
        s.refusesEach(full, FULL, "license(0, 0, 1, 0, 3000)", "license(0, 3, 2, 0, 0)");
        s.refuses(s.told(full, "work(0) agree(1, 0, true)"), "license(1, 0, 1, 0, 0)", FULL);
    }

    private void licenseFirstThatFits() {
        s.of(16, FIRST_THAT_FITS);
        String[] bad = {"license(1, 0, 1, 0, 0)", "license(-1, 0, 1, 0, 0)", "license(0, 4, 1, 0, 0)",
            "license(0, -1, 1, 0, 0)", "license(0, 0, 3, 0, 0)", "license(0, 0, -1, 0, 0)",
            "license(0, 0, 1, -1, 0)", "license(0, 0, 1, 0, 3001)", "license(0, 0, 1, 1, 0)"};
        s.refusesEach(silent, BAD, bad);
        s.refusesEach(full, BAD, bad);
        Told fullAndSilent = s.told(full, "agree(0, 0, false)");
        s.refusesEach(fullAndSilent, BAD, bad);
        s.refusesEach(fullAndSilent, NOT, "license(0, 0, 1, 0, 0)", "license(0, 3, 2, 0, 0)");
        Told fullAndLapsed = s.told(full, "days(500) days(500) days(1)");
        s.refusesEach(fullAndLapsed, NOT, "license(0, 0, 1, 0, 0)", "license(0, 3, 2, 0, 3000)");
        s.refusesEach(fullAndLapsed, BAD, bad);
    }

    private void mayNumbers() {
        s.of(17, "Whether a PERSON MAY a USE of a WORK on t (0 .. THE DAY) as KNOWN at k (0 .. 3000): 1, 0.");
        s.edges(silent, "may(#, 0, 0, 0, 0)", 0, 0, 1);
        s.edges(most, "may(#, 0, 5, 0, 0)", 0, 19, 1);
        s.edges(silent, "may(0, #, 0, 0, 0)", 0, 3, 1);
        s.edges(silent, "may(0, #, 1, 0, 0)", 0, 3, 0);
        s.outside(silent, "may(0, 0, #, 0, 0)", 0, 2);
        s.edges(most, "may(0, 0, #, 0, 0)", 0, 11, 0);
        s.edges(silent, "may(0, 0, 0, #, 0)", 0, 0, 1);
        s.edges(s.told(silent, "days(10)"), "may(0, 0, 1, #, 0)", 0, 10, 0);
        s.edges(s.told(silent, "days(500) ".repeat(6)), "may(0, 0, 0, #, 0)", 0, 3000, 1);
        s.edges(silent, "may(0, 0, 1, 0, #)", 0, 3000, 0);
        s.refuses(silent, "may(0, 0, NOBODY, 0, 0)", BAD);
    }

    private void mayNotBeforeEntry() {
        s.of(17, "BAD: also t or k before ENTRY.");
        Told late = s.told(THREE_PERSONS + "act(0, 1000, -1, 0, 9) days(10) work(0) days(5)");
        s.edges(late, "may(0, 0, 1, #, 15)", 10, 15, 0);
        s.edges(late, "may(0, 0, 1, 15, #)", 10, 3000, 0);
        s.refusesEach(late, BAD, "may(0, 0, 1, 9, 9)", "may(0, 0, 1, 0, 15)", "may(0, 0, 1, 15, 0)");
        Told sameDay = s.told(THREE_PERSONS + "days(10) work(0)");
        s.edges(sameDay, "may(0, 0, 1, #, 10)", 10, 10, 0);
    }

    private void mayIfNotInRight() {
        s.of(17, "if the WORK is not IN RIGHT then");
        Told work = s.told(THREE_PERSONS + "act(0, 10, -1, 0, 1) work(0) act(20, 40, -1, 2, 1) days(50)");
        s.answers(work, "may(0, 0, 1, 10, 50)", 0);
        s.answers(work, "may(0, 0, 1, 11, 50)", 1);
        s.answers(work, "may(0, 0, 1, 19, 50)", 1);
        s.answers(work, "may(0, 0, 1, 20, 50)", 0);
        s.answers(work, "may(0, 0, 1, 20, 20)", 0);
        s.answers(work, "may(0, 0, 1, 20, 19)", 1);
        s.answers(work, "may(0, 0, 1, 40, 50)", 0);
        s.answers(work, "may(0, 0, 1, 41, 50)", 1);
        Told life = s.told(THREE_PERSONS + "act(0, 0, 5, 0, 1) work(0) days(20) death(0, 10)");
        s.answers(life, "may(0, 0, 1, 15, 20)", 0);
        s.answers(life, "may(0, 0, 1, 16, 20)", 1);
        s.answers(life, "may(0, 0, 1, 16, 19)", 0);
    }

    private void mayByLicence() {
        s.of(17, "or a LICENCE of it, for this USE, to that PERSON, GIVEN at t or before, is for t");
        Told given = s.told(agreed, "work(0) days(10) license(0, 2, 1, 5, 20) license(0, 1, 1, 15, 16) days(20)");
        s.answers(given, "may(0, 2, 1, 5, 30)", 0);
        s.answers(given, "may(0, 2, 1, 9, 30)", 0);
        s.answers(given, "may(0, 2, 1, 10, 30)", 1);
        s.answers(given, "may(0, 2, 1, 20, 30)", 1);
        s.answers(given, "may(0, 2, 1, 21, 30)", 0);
        s.answers(given, "may(0, 1, 1, 14, 30)", 0);
        s.answers(given, "may(0, 1, 1, 15, 30)", 1);
        s.answers(given, "may(0, 1, 1, 16, 30)", 1);
        s.answers(given, "may(0, 1, 1, 17, 30)", 0);
        s.answers(given, "may(0, 0, 1, 15, 30)", 0);
        s.answers(given, "may(0, 3, 1, 15, 30)", 0);
        s.answers(given, "may(0, 2, 2, 15, 30)", 0);
        s.answers(given, "may(1, 2, 1, 15, 30)", 0);
        Told ended = s.told(agreed, "days(10) license(0, 0, 1, 0, 9)");
        s.answers(ended, "may(0, 0, 1, 9, 10)", 0);
        s.answers(ended, "may(0, 0, 1, 10, 10)", 0);
    }

    private void mayByShares() {
        s.of(17, "or the PERSON HOLDS 8 SHARES or more on t");
        Told seven = s.told(silent, "sell(0, 0, 1, 7) days(5)");
        s.answers(seven, "may(0, 0, 1, 5, 5)", 0);
        s.answers(seven, "may(0, 0, 0, 5, 5)", 1);
        Told eight = s.told(seven, "sell(0, 0, 1, 1) days(5)");
        s.answers(eight, "may(0, 0, 1, 4, 10)", 0);
        s.answers(eight, "may(0, 0, 1, 5, 10)", 1);
        s.answers(eight, "may(0, 3, 1, 10, 10)", 1);
        s.answers(eight, "may(0, 0, 0, 10, 10)", 1);
        Told nine = s.told(eight, "sell(0, 0, 1, 1)");
        s.answers(nine, "may(0, 0, 0, 9, 10)", 1);
        s.answers(nine, "may(0, 0, 0, 10, 10)", 0);
        s.answers(s.told(silent, "pledge(0, 0, 1, 16)"), "may(0, 0, 0, 0, 0)", 1);
        s.answers(s.told(silent, "pledge(0, 0, 1, 16)"), "may(0, 0, 1, 0, 0)", 0);
    }
}
