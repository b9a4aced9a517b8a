/** Promises 7 to 10: act, work, end, inRight. */
final class ActsSentences {
    private static final int BAD = CopyRegister.BAD, NOT = CopyRegister.NOT, FULL = CopyRegister.FULL;
    private static final int NONE = CopyRegister.NONE;
    private static final String FIRST_THAT_FITS = "Refused, and nothing changes, the first that fits";
    private static final String TO_DAY_3000 = "days(500) ".repeat(6);

    private final Sentences s;
    private final Told nothing;
    private final Told two;
    private final Told sixActs;

    ActsSentences(Sentences s) {
        this.s = s;
        nothing = s.told("");
        two = s.told("person() person()");
        sixActs = s.told(two, "work(0)" + Told.each(10, 15, "act(#, 5, -1, 1, 3)"));
    }

    void test() {
        mostActs();
        actFix();
        actLife();
        actWay();
        actConsent();
        actBehindTheOneAhead();
        actNotBeforeTheDay();
        actUpTo3000();
        actFirstThatFits();
        mostWorks();
        workOfTheDead();
        workEntered();
        endBounds();
        endNotBeforeEntry();
        endByFix();
        endByLife();
        endWithoutDeath();
        endByTheActOfEntry();
        endByLaterActs();
        endLengthened();
        endRevived();
        endForNewWorksAlone();
        endTheLaterOne();
        inRightBounds();
        inRightNotBeforeEntry();
        inRightFromEntry();
        inRightTillEnd();
        inRightNotInTheGap();
    }

    private void mostActs() {
        s.of(7, "ACTS are numbered from 0, 6 at most");
        s.answers(nothing, "act(0, 0, -1, 0, 1)", 0);
        s.answers(s.told("act(0, 0, -1, 0, 1)"), "act(1, 0, -1, 0, 1)", 1);
        Told roomForOne = s.told(Told.each(10, 14, "act(#, 5, -1, 1, 3)"));
        s.answers(roomForOne, "act(15, 5, -1, 1, 3)", 5);
        s.answers(sixActs, "count(2)", 6);
        s.refusesEach(sixActs, FULL, "act(16, 5, -1, 1, 3)", "act(3000, 2000, 2000, 2, 16)", "act(16, 0, -1, 0, 1)");
    }

    private void actFix() {
        s.of(7, "FIX (0 .. 2000)");
        s.edges(nothing, "act(0, #, -1, 0, 1)", 0, 2000, 0);
        Told late = s.told(two, "days(10) work(0)");
        s.outside(late, "act(11, #, -1, 2, 1)", 0, 2000);
        s.answers(s.told(late, "act(11, 0, -1, 2, 1)"), "end(0, 11)", 10);
        s.answers(s.told(late, "act(11, 2000, -1, 2, 1)"), "end(0, 11)", 2010);
    }

    private void actLife() {
        s.of(7, "LIFE (-1 none, 0 .. 2000)");
        s.edges(nothing, "act(0, 0, #, 0, 1)", -1, 2000, 0);
        s.answers(nothing, "act(0, 0, 0, 0, 1)", 0);
        Told work = s.told(two, "work(0)");
        s.outside(work, "act(0, 9, #, 2, 1)", -1, 2000);
        s.answers(s.told(work, "act(0, 9, -1, 0, 1)"), "end(0, 0)", 9);
        s.answers(s.told(work, "act(0, 9, 0, 0, 1)"), "end(0, 0)", NONE);
        s.answers(s.told(work, "act(0, 9, 0, 0, 1) death(0, 0)"), "end(0, 0)", 9);
        s.answers(s.told(work, "act(0, 9, 2000, 0, 1) death(0, 0)"), "end(0, 0)", 2000);
    }

    private void actWay() {
        s.of(7, "WAY (0 for new works alone, 1 LENGTHENS, 2 REVIVES, too)");
        s.edges(nothing, "act(0, 0, -1, #, 1)", 0, 2, 0);
        s.answers(nothing, "act(0, 0, -1, 1, 1)", 0);
        Told work = s.told(two, "act(0, 10, -1, 0, 1) work(0)");
        s.outside(work, "act(5, 90, -1, #, 1)", 0, 2);
        int[] endIfStillInRight = {10, 90, 90};
        int[] endIfLapsed = {10, 10, 90};
        for (int way = 0; way <= 2; way++) {
            s.answers(s.told(work, "act(10, 90, -1, " + way + ", 1)"), "end(0, 10)", endIfStillInRight[way]);
            s.answers(s.told(work, "act(11, 90, -1, " + way + ", 1)"), "end(0, 11)", endIfLapsed[way]);
        }
    }

    private void actConsent() {
        s.of(7, "CONSENT (1 .. 16)");
        s.edges(nothing, "act(0, 0, -1, 0, #)", 1, 16, 0);
        s.outside(s.told(two, "work(0)"), "act(0, 5, -1, 0, #)", 1, 16);
    }

    private void actBehindTheOneAhead() {
        s.of(7, "BAD: also a DAY not behind that of the ACT ahead");
        Told ahead = s.told(two, "work(0) act(10, 5, -1, 2, 1)");
        s.answers(ahead, "act(11, 5, -1, 2, 1)", 1);
        s.refusesEach(ahead, BAD, "act(10, 5, -1, 2, 1)", "act(9, 5, -1, 2, 1)", "act(0, 5, -1, 2, 1)");
        Told twoAhead = s.told(ahead, "act(20, 5, -1, 2, 1)");
        s.answers(twoAhead, "act(21, 5, -1, 2, 1)", 2);
        s.refusesEach(twoAhead, BAD, "act(20, 5, -1, 2, 1)", "act(15, 5, -1, 2, 1)", "act(11, 5, -1, 2, 1)");
        Told lastDay = s.told("act(3000, 5, -1, 2, 1)");
        s.refusesEach(lastDay, BAD, "act(2999, 5, -1, 2, 1)", "act(3000, 5, -1, 2, 1)", "act(3001, 5, -1, 2, 1)");
        s.answers(s.told("act(2999, 5, -1, 2, 1)"), "act(3000, 5, -1, 2, 1)", 1);
        s.of(7, "greater than that of the ACT ahead");
        s.answers(s.told("act(0, 5, -1, 2, 1)"), "act(1, 5, -1, 2, 1)", 1);
        s.refuses(s.told("act(0, 5, -1, 2, 1)"), "act(0, 5, -1, 2, 1)", BAD);
    }

    private void actNotBeforeTheDay() {
        s.of(7, "not before THE DAY (until the DAY of the next ACT)");
        s.edges(nothing, "act(#, 0, -1, 0, 1)", 0, 3000, 0);
        Told later = s.told(two, "work(0) days(10)");
        s.edges(later, "act(#, 50, -1, 2, 1)", 10, 3000, 0);
        s.refuses(later, "act(0, 50, -1, 2, 1)", BAD);
        Told told = s.told(later, "act(10, 5, -1, 2, 1) days(10)");
        s.edges(told, "act(#, 50, -1, 2, 1)", 20, 3000, 1);
        s.refuses(told, "act(11, 50, -1, 2, 1)", BAD);
    }

    private void actUpTo3000() {
        s.of(7, "before THE DAY, or above 3000; FULL.");
        s.edges(s.told("days(1)"), "act(#, 0, -1, 0, 1)", 1, 3000, 0);
        s.edges(s.told(TO_DAY_3000), "act(#, 0, -1, 0, 1)", 3000, 3000, 0);
        s.refuses(s.told(TO_DAY_3000 + "act(3000, 0, -1, 0, 1)"), "act(3000, 0, -1, 0, 1)", BAD);
    }

    private void actFirstThatFits() {
        s.of(7, FIRST_THAT_FITS);
        s.refusesEach(sixActs, BAD, "act(15, 5, -1, 1, 3)", "act(-1, 5, -1, 1, 3)", "act(3001, 5, -1, 1, 3)",
                "act(16, -1, -1, 1, 3)", "act(16, 2001, -1, 1, 3)", "act(16, 5, -2, 1, 3)",
                "act(16, 5, 2001, 1, 3)", "act(16, 5, -1, -1, 3)", "act(16, 5, -1, 3, 3)",
                "act(16, 5, -1, 1, 0)", "act(16, 5, -1, 1, 17)");
        s.refuses(s.told(sixActs, "days(20)"), "act(19, 5, -1, 1, 3)", BAD);
        s.refuses(s.told(sixActs, "days(20)"), "act(20, 5, -1, 1, 3)", FULL);
    }

    private void mostWorks() {
        s.of(8, "WORKS are numbered from 0, 20 at most");
        s.edges(two, "work(#)", 0, 1, 0);
        s.edges(s.told("person() ".repeat(12)), "work(#)", 0, 11, 0);
        s.refuses(two, "work(NOBODY)", BAD);
        s.answers(s.told(two, "work(0)"), "work(0)", 1);
        s.answers(s.told(two, "work(0) ".repeat(19)), "work(1)", 19);
        Told full = s.told(two, "work(0) ".repeat(20));
        s.answers(full, "count(3)", 20);
        s.refusesEach(full, FULL, "work(0)", "work(1)");
    }

    private void workOfTheDead() {
        s.of(8, "BAD; NOT: the AUTHOR is told dead; FULL.");
        Told dead = s.told(two, "work(0) days(5) death(0, 5)");
        s.refuses(dead, "work(0)", NOT);
        s.answers(dead, "work(1)", 1);
        s.refuses(s.told(two, "death(0, 0)"), "work(0)", NOT);
        s.of(8, FIRST_THAT_FITS);
        Told fullAndDead = s.told(two, "work(0) ".repeat(20) + "death(0, 0)");
        s.refuses(fullAndDead, "work(0)", NOT);
        s.refuses(fullAndDead, "work(1)", FULL);
        s.refusesEach(fullAndDead, BAD, "work(2)", "work(-1)", "work(MIN)", "work(MAX)", "work(NOBODY)");
    }

    private void workEntered() {
        s.of(8, "ENTERED at THE DAY, by an AUTHOR (a PERSON)");
        Told work = s.told(two, "days(10) work(1) days(1)");
        s.answers(work, "held(0, 1, 10)", 16);
        s.answers(work, "held(0, 1, 9)", BAD);
        s.answers(work, "end(0, 10)", 10);
        s.answers(work, "end(0, 9)", BAD);
        s.answers(s.told(two, TO_DAY_3000), "work(0)", 0);
        s.answers(s.told(two, TO_DAY_3000 + "work(0)"), "end(0, 3000)", 3000);
    }

    private void endBounds() {
        s.of(9, "END of a WORK as KNOWN at k (0 .. 3000); NONE: it goes on.");
        Told work = s.told(two, "work(0)");
        s.edges(work, "end(0, #)", 0, 3000, 0);
        s.edges(work, "end(#, 0)", 0, 0, 0);
        s.edges(s.told(two, "work(0) ".repeat(20)), "end(#, 3000)", 0, 19, 0);
        s.edges(s.told(work, "act(0, 0, 0, 0, 1)"), "end(0, #)", 0, 3000, NONE);
    }

    private void endNotBeforeEntry() {
        s.of(9, "BAD: also k before ENTRY.");
        s.edges(s.told(two, "days(10) work(0) days(5)"), "end(0, #)", 10, 3000, 10);
        s.edges(s.told(two, TO_DAY_3000 + "work(0)"), "end(0, #)", 3000, 3000, 3000);
        s.refuses(s.told(two, "days(10) work(0)"), "end(0, 0)", BAD);
        Told entries = s.told(two, "work(0) days(10) work(0)");
        s.answers(entries, "end(0, 9)", 0);
        s.refuses(entries, "end(1, 9)", BAD);
    }

    private void endByFix() {
        s.of(9, "BY AN ACT it is the DAY of ENTRY and FIX");
        s.answers(s.told(two, "act(0, 0, -1, 0, 1) work(0)"), "end(0, 0)", 0);
        s.answers(s.told(two, "act(0, 0, -1, 0, 1) days(7) work(0)"), "end(0, 7)", 7);
        s.answers(s.told(two, "act(0, 1, -1, 0, 1) days(7) work(0)"), "end(0, 7)", 8);
        s.answers(s.told(two, "act(0, 2000, -1, 0, 1) work(0)"), "end(0, 0)", 2000);
        s.answers(s.told(two, "act(0, 2000, -1, 0, 1)" + TO_DAY_3000 + "work(0)"), "end(0, 3000)", 5000);
    }

    private void endByLife() {
        s.of(9, "with LIFE not -1 the later one of that and the DAY of the AUTHOR's death and LIFE");
        Told lived = s.told(two, "act(0, 50, 30, 0, 1) work(0) days(40)");
        s.answers(s.told(lived, "death(0, 0)"), "end(0, 40)", 50);
        s.answers(s.told(lived, "death(0, 19)"), "end(0, 40)", 50);
        s.answers(s.told(lived, "death(0, 20)"), "end(0, 40)", 50);
        s.answers(s.told(lived, "death(0, 21)"), "end(0, 40)", 51);
        s.answers(s.told(lived, "death(0, 40)"), "end(0, 40)", 70);
        s.answers(s.told(lived, "death(1, 21)"), "end(0, 40)", NONE);
        Told noTerm = s.told(two, "act(0, 0, 0, 0, 1) days(10) work(0) days(1)");
        s.answers(s.told(noTerm, "death(0, 9)"), "end(0, 11)", 10);
        s.answers(s.told(noTerm, "death(0, 11)"), "end(0, 11)", 11);
        Told latest = s.told(two, "act(0, 2000, 2000, 0, 1)" + TO_DAY_3000 + "work(0) death(0, 3000)");
        s.answers(latest, "end(0, 3000)", 5000);
        Told without = s.told(two, "act(0, 50, -1, 0, 1) work(0) days(60) death(0, 60)");
        s.answers(without, "end(0, 60)", 50);
    }

    private void endWithoutDeath() {
        s.of(9, "if no death is LEARNT at k or before, none (it goes on)");
        Told learnt = s.told(two, "act(0, 5, 30, 0, 1) work(0) days(20) death(0, 3) days(20)");
        s.answers(learnt, "end(0, 0)", NONE);
        s.answers(learnt, "end(0, 3)", NONE);
        s.answers(learnt, "end(0, 19)", NONE);
        s.answers(learnt, "end(0, 20)", 33);
        s.answers(learnt, "end(0, 3000)", 33);
        s.answers(s.told(two, "act(0, 5, 0, 0, 1) work(0)"), "end(0, 3000)", NONE);
    }

    private void endByTheActOfEntry() {
        s.of(9, "First by the ACT in force on the DAY of ENTRY (none: the DAY of ENTRY itself)");
        Told acts = s.told(two, "act(10, 7, -1, 0, 1) act(20, 3, -1, 0, 1) days(9)");
        s.answers(s.told(acts, "work(0)"), "end(0, 3000)", 9);
        s.answers(s.told(acts, "days(1) work(0)"), "end(0, 3000)", 17);
        s.answers(s.told(acts, "days(10) work(0)"), "end(0, 3000)", 26);
        s.answers(s.told(acts, "days(11) work(0)"), "end(0, 3000)", 23);
        s.answers(s.told(acts, "days(12) work(0)"), "end(0, 3000)", 24);
        s.answers(s.told(two, "work(0)"), "end(0, 0)", 0);
    }

    private void endByLaterActs() {
        s.of(9, "for each ACT from a later DAY d on, k or before");
        Told work = s.told(two, "act(0, 90, -1, 0, 1) days(10) work(0)");
        Told sameDay = s.told(work, "act(10, 5, -1, 2, 1)");
        s.answers(sameDay, "end(0, 10)", 15);
        Told nextDay = s.told(work, "act(11, 95, -1, 2, 1)");
        s.answers(nextDay, "end(0, 10)", 100);
        s.answers(nextDay, "end(0, 11)", 105);
        Told inOrder = s.told(work, "act(100, 91, -1, 1, 1) act(101, 200, -1, 1, 1) act(3000, 2000, -1, 2, 1)");
        s.answers(inOrder, "end(0, 99)", 100);
        s.answers(inOrder, "end(0, 100)", 101);
        s.answers(inOrder, "end(0, 101)", 210);
        s.answers(inOrder, "end(0, 2999)", 210);
        s.answers(inOrder, "end(0, 3000)", 2010);
        Told six = s.told(two, "work(0)" + Told.each(1, 6, "act(#, #, -1, 1, 1)"));
        s.answers(six, "end(0, 6)", 0);
        Told sixRevived = s.told(two, "work(0)" + Told.each(1, 6, "act(#, #, -1, 2, 1)"));
        s.answers(sixRevived, "end(0, 5)", 5);
        s.answers(sixRevived, "end(0, 6)", 6);
    }

    private void endLengthened() {
        s.of(9, "of WAY 1, if END so far is d or later (or none)");
        Told work = s.told(two, "act(0, 20, -1, 0, 1) work(0)");
        s.answers(s.told(work, "act(19, 80, -1, 1, 1)"), "end(0, 19)", 80);
        s.answers(s.told(work, "act(20, 80, -1, 1, 1)"), "end(0, 20)", 80);
        s.answers(s.told(work, "act(21, 80, -1, 1, 1)"), "end(0, 21)", 20);
        Told goesOn = s.told(two, "act(0, 20, 0, 0, 1) work(0) act(21, 80, -1, 1, 1)");
        s.answers(goesOn, "end(0, 21)", NONE);
        Told lapsedAsLearnt = s.told(goesOn, "days(30) death(0, 20)");
        s.answers(lapsedAsLearnt, "end(0, 29)", NONE);
        s.answers(lapsedAsLearnt, "end(0, 30)", 20);
        Told justInRight = s.told(goesOn, "days(30) death(0, 21)");
        s.answers(justInRight, "end(0, 30)", 80);
    }

    private void endRevived() {
        s.of(9, "of WAY 2 always");
        Told work = s.told(two, "act(0, 20, -1, 0, 1) work(0)");
        s.answers(s.told(work, "act(19, 80, -1, 2, 1)"), "end(0, 19)", 80);
        s.answers(s.told(work, "act(20, 80, -1, 2, 1)"), "end(0, 20)", 80);
        s.answers(s.told(work, "act(21, 80, -1, 2, 1)"), "end(0, 21)", 80);
        s.answers(s.told(work, "act(3000, 80, -1, 2, 1)"), "end(0, 3000)", 80);
        s.answers(s.told(work, "act(3000, 80, -1, 2, 1)"), "end(0, 2999)", 20);
        s.answers(s.told(work, "act(50, 0, 0, 2, 1)"), "end(0, 50)", NONE);
    }

    private void endForNewWorksAlone() {
        s.of(9, "WAY (0 for new works alone");
        Told work = s.told(two, "act(0, 20, -1, 0, 1) work(0) act(10, 80, 5, 0, 1)");
        s.answers(work, "end(0, 10)", 20);
        s.answers(work, "end(0, 3000)", 20);
        s.answers(s.told(work, "days(9) work(0)"), "end(1, 3000)", 29);
        s.answers(s.told(work, "days(10) work(0)"), "end(1, 3000)", NONE);
    }

    private void endTheLaterOne() {
        s.of(9, "END becomes the later one of END so far and END BY that ACT");
        Told work = s.told(two, "act(0, 20, -1, 0, 1) work(0)");
        for (int way = 1; way <= 2; way++) {
            s.answers(s.told(work, "act(5, 0, -1, " + way + ", 1)"), "end(0, 5)", 20);
            s.answers(s.told(work, "act(5, 19, -1, " + way + ", 1)"), "end(0, 5)", 20);
            s.answers(s.told(work, "act(5, 20, -1, " + way + ", 1)"), "end(0, 5)", 20);
            s.answers(s.told(work, "act(5, 21, -1, " + way + ", 1)"), "end(0, 5)", 21);
            s.answers(s.told(work, "act(5, 0, 0, " + way + ", 1)"), "end(0, 5)", NONE);
            s.answers(s.told(work, "act(5, 0, 0, " + way + ", 1) act(6, 50, -1, " + way + ", 1)"), "end(0, 6)", NONE);
        }
    }

    private void inRightBounds() {
        s.of(10, "Whether a WORK is IN RIGHT on t as KNOWN at k (0 .. 3000 each): 1, 0.");
        Told goesOn = s.told(two, "act(0, 0, 0, 0, 1) work(0)");
        s.edges(goesOn, "inRight(0, #, 0)", 0, 3000, 1);
        s.edges(goesOn, "inRight(0, 0, #)", 0, 3000, 1);
        s.edges(goesOn, "inRight(#, 0, 0)", 0, 0, 1);
        s.edges(s.told(two, "work(0) ".repeat(20)), "inRight(#, 0, 0)", 0, 19, 1);
        s.answers(s.told(two, "work(0)"), "inRight(0, 3000, 3000)", 0);
    }

    private void inRightNotBeforeEntry() {
        s.of(10, "BAD: also k before ENTRY.");
        Told late = s.told(two, "days(10) work(0)");
        s.edges(late, "inRight(0, 10, #)", 10, 3000, 1);
        s.refusesEach(late, BAD, "inRight(0, 10, 0)", "inRight(0, 9, 9)", "inRight(0, 0, 9)", "inRight(0, 11, 9)");
        s.edges(s.told(two, TO_DAY_3000 + "work(0)"), "inRight(0, 3000, #)", 3000, 3000, 1);
    }

    private void inRightFromEntry() {
        s.of(10, "ENTERED at t or before");
        Told late = s.told(two, "act(0, 0, 0, 0, 1) days(10) work(0)");
        s.answers(late, "inRight(0, 0, 10)", 0);
        s.answers(late, "inRight(0, 9, 10)", 0);
        s.answers(late, "inRight(0, 10, 10)", 1);
        s.answers(late, "inRight(0, 11, 10)", 1);
    }

    private void inRightTillEnd() {
        s.of(10, "END at k is t or later, or none");
        Told fixed = s.told(two, "act(0, 20, -1, 0, 1) work(0)");
        s.answers(fixed, "inRight(0, 19, 0)", 1);
        s.answers(fixed, "inRight(0, 20, 0)", 1);
        s.answers(fixed, "inRight(0, 21, 0)", 0);
        s.answers(s.told(two, "work(0)"), "inRight(0, 0, 0)", 1);
        s.answers(s.told(two, "work(0)"), "inRight(0, 1, 0)", 0);
        Told learnt = s.told(two, "act(0, 0, 5, 0, 1) work(0) days(20) death(0, 10)");
        s.answers(learnt, "inRight(0, 15, 20)", 1);
        s.answers(learnt, "inRight(0, 16, 20)", 0);
        s.answers(learnt, "inRight(0, 16, 19)", 1);
        s.answers(learnt, "inRight(0, 3000, 19)", 1);
    }

    private void inRightNotInTheGap() {
        s.of(10, "but on no DAY behind an END so far that lay before d, and ahead of d,"
                + " where an ACT of WAY 2 from d on came.");
        Told lapsed = s.told(two, "act(0, 10, -1, 0, 1) work(0)");
        inRightOn(s.told(lapsed, "act(20, 90, -1, 2, 1)"), 20, "10+ 11- 19- 20+ 90+ 91-");
        inRightOn(s.told(lapsed, "act(20, 90, -1, 2, 1)"), 19, "10+ 11- 19- 20- 90-");
        inRightOn(s.told(lapsed, "act(12, 90, -1, 2, 1)"), 12, "10+ 11- 12+");
        inRightOn(s.told(lapsed, "act(11, 90, -1, 2, 1)"), 11, "10+ 11+ 12+");
        inRightOn(s.told(lapsed, "act(10, 90, -1, 2, 1)"), 10, "9+ 10+ 11+ 90+ 91-");
        inRightOn(s.told(lapsed, "act(20, 20, -1, 2, 1)"), 20, "10+ 19- 20+ 21-");
        inRightOn(s.told(lapsed, "act(20, 19, -1, 2, 1)"), 20, "10+ 11- 19- 20-");
        inRightOn(s.told(lapsed, "act(20, 90, -1, 1, 1)"), 20, "10+ 11- 20-");
        inRightOn(s.told(lapsed, "act(20, 30, -1, 2, 1) act(40, 90, -1, 2, 1)"), 40,
                "10+ 11- 19- 20+ 30+ 31- 39- 40+ 90+ 91-");
        inRightOn(s.told(lapsed, "act(20, 15, -1, 2, 1) act(40, 90, -1, 2, 1)"), 40,
                "10+ 11- 15- 16- 20- 39- 40+");
        inRightOn(s.told(lapsed, "act(20, 90, -1, 2, 1) act(40, 95, -1, 2, 1)"), 40, "19- 20+ 39+ 40+ 95+ 96-");
        inRightOn(s.told(lapsed, "act(20, 0, 0, 2, 1)"), 20, "10+ 11- 19- 20+ 3000+");
        inRightOn(s.told(lapsed, "act(3000, 2000, -1, 2, 1)"), 3000, "10+ 11- 2999- 3000-");
        inRightOn(s.told(two, "work(0) act(1, 90, -1, 2, 1)"), 1, "0+ 1+ 90+ 91-");
        inRightOn(s.told(two, "work(0) act(2, 90, -1, 2, 1)"), 2, "0+ 1- 2+ 90+ 91-");
        inRightOn(s.told(two, "act(0, 5, -1, 0, 1) days(10) work(0) act(10, 90, -1, 2, 1)"), 10, "9- 10+ 100+ 101-");
        gapAsLearnt();
    }

    private void gapAsLearnt() {
        Told learnt = s.told(two, "act(0, 0, 5, 0, 1) work(0) act(50, 0, 90, 2, 1) days(60) death(0, 20)");
        inRightOn(learnt, 59, "25+ 26+ 49+ 50+ 3000+");
        inRightOn(learnt, 60, "25+ 26- 49- 50+ 110+ 111-");
    }

    /** Days with '+' are in right, those with '-' are not. */
    private void inRightOn(Told told, int k, String days) {
        for (String day : days.split(" ")) {
            int last = day.length() - 1;
            s.answers(told, "inRight(0, " + day.substring(0, last) + ", " + k + ")", day.charAt(last) == '+' ? 1 : 0);
        }
    }
}
