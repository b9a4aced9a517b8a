/** Promises 1 to 6: a new object, days, person, heir, death, died. */
final class PersonsSentences {
    private static final int BAD = CopyRegister.BAD, NOT = CopyRegister.NOT, FULL = CopyRegister.FULL;
    private static final int NONE = CopyRegister.NONE, NOBODY = CopyRegister.NOBODY;
    private static final String PERSON = "person() ";

    private final Sentences s;
    private final Told nothing;
    private final Told three;
    private final Told all;

    PersonsSentences(Sentences s) {
        this.s = s;
        nothing = s.told("");
        three = s.told(PERSON.repeat(3));
        all = s.told(PERSON.repeat(12));
    }

    void test() {
        nothingTold();
        nothingToldIsNoOne();
        firstDay();
        lastPromisedCall();
        stepsOfDays();
        lastDay();
        mostPersons();
        heirNamed();
        heirOfItself();
        heirAtFirst();
        deathOfNoOne();
        deathDay();
        deathOnce();
        deathWithoutShares();
        deathToTheHeir();
        deathEndsPledges();
        diedBounds();
        diedLearnt();
    }

    private void nothingTold() {
        s.of(1, "DAY 0, nothing told.");
        for (int what = 0; what <= 5; what++) {
            s.answers(nothing, "count(" + what + ")", 0);
        }
        s.answers(nothing, "person()", 0);
        s.answers(nothing, "act(0, 0, -1, 0, 1)", 0);
        s.answers(nothing, "common(1, false)", 0);
        s.answers(nothing, "common(999, true)", 0);
        Told one = s.told(PERSON);
        s.answers(one, "work(0)", 0);
        s.answers(one, "heir(0, -1)", NONE);
        s.answers(one, "died(0, 3000)", NONE);
        Told work = s.told(one, "work(0)");
        s.answers(work, "agree(0, 0, false)", 0);
        s.answers(work, "line(0, 1)", 1);
        s.answers(work, "alike(0, 0)", 0);
        s.answers(s.told(work, "agree(0, 0, true)"), "license(0, 0, 0, 0, 0)", 0);
    }

    private void nothingToldIsNoOne() {
        s.of(1, "BAD (no such PERSON, ACT, WORK, or a number out of its bounds)");
        s.refusesEach(nothing, BAD, "heir(0, -1)", "heir(0, 1)", "heir(-1, -1)", "death(0, 0)", "died(0, 0)",
                "work(0)", "end(0, 0)", "inRight(0, 0, 0)", "sell(0, 0, 1, 1)", "pledge(0, 0, 1, 1)",
                "redeem(0, 0, 1)", "held(0, 0, 0)", "held(0, NOBODY, 0)", "agree(0, 0, true)",
                "license(0, 0, 0, 0, 0)", "may(0, 0, 0, 0, 0)", "line(0, 1)", "alike(0, 0)",
                "pair(0, 0, 0, 0)", "copied(0, 0, 1)");
        s.refusesEach(three, BAD, "end(0, 0)", "inRight(0, 0, 0)", "sell(0, 0, 1, 1)", "pledge(0, 0, 1, 1)",
                "redeem(0, 0, 1)", "held(0, 0, 0)", "held(0, NOBODY, 0)", "agree(0, 0, true)",
                "license(0, 0, 0, 0, 0)", "may(0, 0, 0, 0, 0)", "line(0, 1)", "alike(0, 0)",
                "pair(0, 0, 0, 0)", "copied(0, 0, 1)");
    }

    private void firstDay() {
        s.of(1, "THE DAY is 0 at first");
        s.answers(nothing, "count(0)", 0);
        s.answers(nothing, "days(1)", 1);
        s.answers(three, "death(0, 0)", NOBODY);
        s.refuses(three, "death(0, 1)", BAD);
    }

    private void lastPromisedCall() {
        s.of(1, "An object is used for at most 512 calls after it has been made");
        String start = PERSON.repeat(2) + "act(0, 2000, -1, 0, 1) work(0) ";
        String daily = "days(1) sell(0, 0, 1, 1) days(1) sell(0, 1, 0, 1) ";
        Told calls511 = s.told(start + daily.repeat(126) + "agree(0, 0, true) line(0, 1) line(0, 2)");
        s.answers(calls511, "count(0)", 252);
        s.answers(calls511, "held(0, 0, 0)", 16);
        s.answers(calls511, "held(0, 1, 251)", 1);
        s.answers(calls511, "held(0, 1, 252)", 0);
        s.answers(calls511, "end(0, 252)", 2000);
        s.answers(calls511, "license(0, 0, 1, 0, 3000)", 0);
        s.answers(calls511, "death(0, 252)", NOBODY);
        s.answers(calls511, "alike(0, 0)", 2);
    }

    private void stepsOfDays() {
        s.of(2, "THE DAY goes on by n (1 .. 500): THE DAY.");
        s.answers(nothing, "days(1)", 1);
        s.answers(nothing, "days(500)", 500);
        s.outside(nothing, "days(#)", 1, 500);
        Told later = s.told("days(500) days(1)");
        s.answers(later, "days(1)", 502);
        s.answers(later, "days(500)", 1001);
        s.answers(later, "count(0)", 501);
        s.outside(later, "days(#)", 1, 500);
        s.refusesEach(later, BAD, "days(-1)", "days(-501)", "days(2147483146)", "days(2147483147)");
    }

    private void lastDay() {
        s.of(2, "BAD: also above 3000.");
        Told at2500 = s.told("days(500) ".repeat(5));
        s.answers(at2500, "days(500)", 3000);
        Told at2501 = s.told(at2500, "days(1)");
        s.answers(at2501, "days(499)", 3000);
        s.refuses(at2501, "days(500)", BAD);
        Told at2999 = s.told(at2501, "days(498)");
        s.answers(at2999, "days(1)", 3000);
        s.refuses(at2999, "days(2)", BAD);
        s.of(2, "goes on (3000 at most)");
        Told at3000 = s.told(at2999, "days(1)");
        s.answers(at3000, "count(0)", 3000);
        s.refusesEach(at3000, BAD, "days(1)", "days(500)");
        s.outside(at3000, "days(#)", 1, 500);
    }

    private void mostPersons() {
        s.of(3, "PERSONS are numbered from 0, 12 at most.");
        s.answers(nothing, "person()", 0);
        s.answers(s.told(PERSON), "person()", 1);
        Told roomForOne = s.told(PERSON.repeat(11));
        s.answers(roomForOne, "person()", 11);
        s.answers(roomForOne, "count(1)", 11);
        s.answers(all, "count(1)", 12);
        s.of(3, "A PERSON: its number. FULL.");
        s.refuses(all, "person()", FULL);
        s.refuses(s.told(all, "days(500) death(11, 0)"), "person()", FULL);
    }

    private void heirNamed() {
        s.of(4, "The HEIR of a PERSON (-1: none): which it was.");
        s.edges(three, "heir(#, 1)", 0, 2, NONE);
        s.edges(three, "heir(1, #)", -1, 2, NONE);
        s.edges(all, "heir(#, 5)", 0, 11, NONE);
        s.edges(all, "heir(5, #)", -1, 11, NONE);
        s.refusesEach(three, BAD, "heir(0, NOBODY)", "heir(NOBODY, 0)", "heir(-1, -1)", "heir(3, -1)");
        Told named = s.told(three, "heir(1, 0) heir(2, 1)");
        s.answers(named, "heir(1, 2)", 0);
        s.answers(named, "heir(1, -1)", 0);
        s.answers(named, "heir(1, 0)", 0);
        s.answers(s.told(named, "heir(1, -1)"), "heir(1, 0)", NONE);
        s.refusesEach(named, BAD, "heir(1, 3)", "heir(1, -2)", "heir(2, 3)");
    }

    private void heirOfItself() {
        s.of(4, "BAD: also itself.");
        s.refusesEach(three, BAD, "heir(0, 0)", "heir(2, 2)", "heir(3, 3)", "heir(-1, -1)", "heir(MAX, MAX)");
        s.refuses(all, "heir(11, 11)", BAD);
        Told named = s.told(three, "heir(0, 2)");
        s.refuses(named, "heir(0, 0)", BAD);
    }

    private void heirAtFirst() {
        s.of(4, "It has an HEIR, another PERSON, or none (at first).");
        for (int p = 0; p < 12; p++) {
            s.answers(all, "heir(" + p + ", -1)", NONE);
        }
        s.answers(s.told(three, "heir(0, 1)"), "heir(1, 0)", NONE);
        s.answers(s.told(three, "heir(0, 1)"), "heir(2, 0)", NONE);
    }

    private void deathOfNoOne() {
        s.of(5, "BAD; NOT: it is told dead already.");
        s.edges(three, "death(#, 0)", 0, 2, NOBODY);
        s.edges(all, "death(#, 0)", 0, 11, NOBODY);
        s.refuses(three, "death(NOBODY, 0)", BAD);
    }

    private void deathDay() {
        s.of(5, "A PERSON may be told dead on a DAY, not behind THE DAY");
        s.edges(three, "death(0, #)", 0, 0, NOBODY);
        s.edges(s.told(three, "days(1)"), "death(0, #)", 0, 1, NOBODY);
        s.edges(s.told(three, "work(0) heir(0, 1) days(10)"), "death(0, #)", 0, 10, 1);
        s.edges(s.told(three, "days(500) ".repeat(6)), "death(0, #)", 0, 3000, NOBODY);
        s.answers(s.told(three, "days(10) work(0)"), "death(0, 9)", NOBODY);
    }

    private void deathOnce() {
        s.of(5, "NOT: it is told dead already.");
        Told dead = s.told(three, "work(0) work(1) days(10) heir(0, 1) death(0, 5) heir(0, 2)");
        s.refusesEach(dead, NOT, "death(0, 5)", "death(0, 0)", "death(0, 10)");
        s.answers(dead, "death(1, 10)", NOBODY);
        s.refuses(s.told(dead, "days(1)"), "death(0, 11)", NOT);
        s.of(5, "Refused, and nothing changes, the first that fits");
        s.refusesEach(dead, BAD, "death(0, 11)", "death(0, -1)", "death(0, MIN)", "death(0, MAX)");
    }

    private void deathWithoutShares() {
        s.of(5, "(NOBODY; also if it had none: to whom they would have come)");
        s.answers(three, "death(0, 0)", NOBODY);
        s.answers(s.told(three, "heir(0, 2)"), "death(0, 0)", 2);
        s.answers(s.told(three, "work(0) heir(0, 1) sell(0, 0, 2, 16)"), "death(0, 0)", 1);
        Told dead = s.told(three, "work(0) heir(0, 1) sell(0, 0, 2, 16) death(0, 0)");
        s.answers(dead, "held(0, 1, 0)", 0);
        s.answers(dead, "held(0, 2, 0)", 16);
    }

    private void deathToTheHeir() {
        s.of(5, "all SHARES of that PERSON come to the HEIR (not dead as told; else, or without one, to NOBODY)");
        Told owner = s.told(three, "work(0) sell(0, 0, 2, 1)");
        s.answers(owner, "death(0, 0)", NOBODY);
        s.answers(s.told(owner, "death(0, 0)"), "held(0, NOBODY, 0)", 15);
        Told heir = s.told(owner, "heir(0, 2)");
        s.answers(heir, "death(0, 0)", 2);
        s.answers(s.told(heir, "death(0, 0)"), "held(0, 2, 0)", 16);
        s.answers(s.told(heir, "death(0, 0)"), "held(0, 0, 0)", 0);
        s.answers(s.told(heir, "death(2, 0)"), "death(0, 0)", NOBODY);
        s.answers(s.told(heir, "heir(0, -1)"), "death(0, 0)", NOBODY);
        s.answers(s.told(heir, "death(0, 0) death(2, 0)"), "held(0, NOBODY, 0)", 16);
        s.answers(s.told(heir, "heir(2, 1) death(2, 0) death(0, 0)"), "held(0, 1, 0)", 1);
        s.answers(s.told(all, "heir(11, 0)"), "death(11, 0)", 0);
        s.answers(s.told(all, "heir(0, 11)"), "death(0, 0)", 11);
        Told twenty = s.told(all, "work(3) ".repeat(20) + "heir(3, 11) death(3, 0)");
        s.answers(twenty, "held(0, 11, 0)", 16);
        s.answers(twenty, "held(19, 11, 0)", 16);
        s.answers(twenty, "held(19, 3, 0)", 0);
    }

    private void deathEndsPledges() {
        s.of(5, "pledges on them end");
        Told dead = s.told(all, "work(0) work(0) heir(0, 5) pledge(0, 0, 1, 1) pledge(0, 0, 11, 15)"
                + "pledge(1, 0, 11, 16) death(0, 0)");
        s.answers(dead, "sell(0, 5, 1, 16)", 1);
        s.answers(dead, "sell(1, 5, 1, 16)", 1);
        s.answers(dead, "redeem(0, 0, 1)", NOT);
        s.answers(dead, "redeem(0, 0, 11)", NOT);
        s.answers(dead, "redeem(0, 5, 11)", NOT);
        Told toTheFirst = s.told(all, "work(11) pledge(0, 11, 0, 16) heir(11, 5) death(11, 0)");
        s.answers(toTheFirst, "redeem(0, 11, 0)", NOT);
        s.answers(toTheFirst, "sell(0, 5, 0, 16)", 1);
        Told others = s.told(all, "work(0) sell(0, 0, 1, 8) pledge(0, 1, 0, 8) heir(0, 1) death(0, 0)");
        s.answers(others, "redeem(0, 1, 0)", 8);
        s.answers(others, "sell(0, 1, 2, 8)", 1);
        s.answers(others, "sell(0, 1, 2, 9)", NOT);
    }

    private void diedBounds() {
        s.of(6, "The DAY of a PERSON's death as KNOWN at k (0 .. 3000); NONE. BAD.");
        s.edges(three, "died(#, 0)", 0, 2, NONE);
        s.edges(all, "died(#, 3000)", 0, 11, NONE);
        s.edges(three, "died(0, #)", 0, 3000, NONE);
        s.refuses(three, "died(NOBODY, 0)", BAD);
        Told dead = s.told(three, "death(0, 0)");
        s.edges(dead, "died(0, #)", 0, 3000, 0);
        s.answers(dead, "died(1, 3000)", NONE);
        s.answers(s.told(three, "days(500) ".repeat(6) + "death(0, 3000)"), "died(0, 3000)", 3000);
        s.answers(s.told(three, "days(500) ".repeat(6) + "death(0, 3000)"), "died(0, 2999)", NONE);
    }

    private void diedLearnt() {
        s.of(6, "it is LEARNT at THE DAY");
        Told dead = s.told(three, "days(20) death(0, 7) days(20)");
        s.answers(dead, "died(0, 6)", NONE);
        s.answers(dead, "died(0, 7)", NONE);
        s.answers(dead, "died(0, 19)", NONE);
        s.answers(dead, "died(0, 20)", 7);
        s.answers(dead, "died(0, 21)", 7);
    }
}
