/** Promises 15 to 17: agree, license, may. */
public final class LicencesTest {
    private static final int BAD = CopyRegister.BAD, NOT = CopyRegister.NOT, FULL = CopyRegister.FULL;
    private static final int NOBODY = CopyRegister.NOBODY;
    private static final Due D = new Due("LicencesTest");

    public static void main(String[] args) {
        agree();
        licenseRefusals();
        licenseWantsRight();
        licenseWantsConsent();
        consentOfTheActOfTheDay();
        consentOfSharesNow();
        licencesFull();
        mayRefusals();
        mayWhenNotInRight();
        mayByLicence();
        mayByShares();
        D.close();
    }

    /** Three persons, one work of person 0 that is in right till day 1000; consent as told. */
    private static CopyRegister withWork(int consent) {
        CopyRegister x = new CopyRegister();
        x.person();
        x.person();
        x.person();
        x.act(0, 1000, -1, 0, consent);
        x.work(0);
        return x;
    }

    private static void agree() {
        CopyRegister x = withWork(1);
        x.work(1);
        D.due("no such work", x.agree(2, 0, true), BAD);
        D.due("work -1", x.agree(-1, 0, true), BAD);
        D.due("no such person", x.agree(0, 3, true), BAD);
        D.due("NOBODY", x.agree(0, NOBODY, true), BAD);
        D.due("it did not", x.agree(0, 0, false), 0);
        D.due("it did not", x.agree(0, 0, true), 0);
        D.due("it did", x.agree(0, 0, true), 1);
        D.due("another one did not", x.agree(0, 1, true), 0);
        D.due("not to another work", x.agree(1, 0, true), 0);
        D.due("it did", x.agree(0, 0, false), 1);
        D.due("no more", x.agree(0, 0, false), 0);
        D.due("the other one did", x.agree(0, 1, false), 1);
        x.death(2, 0);
        D.due("a dead one may be told", x.agree(0, 2, true), 0);
    }

    private static void licenseRefusals() {
        CopyRegister x = withWork(1);
        x.agree(0, 0, true);
        D.due("no such work", x.license(1, 0, 1, 0, 0), BAD);
        D.due("work -1", x.license(-1, 0, 1, 0, 0), BAD);
        D.due("use -1", x.license(0, -1, 1, 0, 0), BAD);
        D.due("use 4", x.license(0, 4, 1, 0, 0), BAD);
        D.due("no such person", x.license(0, 0, 3, 0, 0), BAD);
        D.due("NOBODY", x.license(0, 0, NOBODY, 0, 0), BAD);
        D.due("from -1", x.license(0, 0, 1, -1, 0), BAD);
        D.due("from 3001", x.license(0, 0, 1, 3001, 3001), BAD);
        D.due("to 3001", x.license(0, 0, 1, 0, 3001), BAD);
        D.due("to before from", x.license(0, 0, 1, 5, 4), BAD);
        D.due("refusals give none", x.count(4), 0);
        D.due("one day", x.license(0, 0, 1, 5, 5), 0);
        D.due("all days", x.license(0, 3, 1, 0, 3000), 1);
        D.due("count(4)", x.count(4), 2);
        x.agree(0, 0, false);
        D.due("BAD goes first", x.license(0, 0, 1, 5, 4), BAD);
    }

    private static void licenseWantsRight() {
        CopyRegister x = new CopyRegister();
        x.person();
        x.act(0, 10, -1, 0, 1);
        x.act(20, 40, -1, 2, 1);
        x.work(0);
        x.agree(0, 0, true);
        x.days(10);
        D.due("on the last day", x.license(0, 0, 0, 0, 1), 0);
        x.days(1);
        D.due("lapsed", x.license(0, 0, 0, 0, 1), NOT);
        x.days(8);
        D.due("known as of today: not revived yet", x.license(0, 0, 0, 0, 1), NOT);
        x.days(1);
        D.due("revived", x.license(0, 0, 0, 0, 1), 1);
        x.days(20);
        D.due("till day 40", x.license(0, 0, 0, 0, 1), 2);
        x.days(1);
        D.due("no longer", x.license(0, 0, 0, 0, 1), NOT);
        D.due("count(4)", x.count(4), 3);
    }

    private static void licenseWantsConsent() {
        CopyRegister x = withWork(9);
        x.sell(0, 0, 1, 4);
        x.sell(0, 0, 2, 4);
        D.due("nobody agrees", x.license(0, 0, 1, 0, 9), NOT);
        x.agree(0, 0, true);
        D.due("8 of 9", x.license(0, 0, 1, 0, 9), NOT);
        x.sell(0, 1, 0, 1);
        D.due("9 of 9", x.license(0, 0, 1, 0, 9), 0);
        x.sell(0, 0, 1, 1);
        x.agree(0, 1, true);
        D.due("12 of two", x.license(0, 0, 2, 0, 9), 1);
        x.agree(0, 0, false);
        D.due("4 are left", x.license(0, 0, 2, 0, 9), NOT);
        x.agree(0, 2, true);
        D.due("8 of two", x.license(0, 0, 2, 0, 9), NOT);
        x.pledge(0, 0, 1, 8);
        x.agree(0, 0, true);
        D.due("pledged shares agree, too", x.license(0, 0, 2, 0, 9), 2);
    }

    private static void consentOfTheActOfTheDay() {
        CopyRegister x = new CopyRegister();
        x.person();
        x.person();
        x.work(0);
        x.sell(0, 0, 1, 1);
        x.agree(0, 0, true);
        D.due("without an act 16 are wanted", x.license(0, 0, 1, 0, 0), NOT);
        x.agree(0, 1, true);
        D.due("16", x.license(0, 0, 1, 0, 0), 0);
        x.agree(0, 1, false);
        x.act(5, 100, -1, 2, 15);
        x.act(10, 100, -1, 2, 16);
        x.act(15, 100, -1, 0, 1);
        x.days(4);
        D.due("not in right on day 4", x.license(0, 0, 1, 0, 0), NOT);
        x.days(1);
        D.due("15 from day 5 on", x.license(0, 0, 1, 0, 0), 1);
        x.days(4);
        D.due("15 till day 9", x.license(0, 0, 1, 0, 0), 2);
        x.days(1);
        D.due("16 from day 10 on", x.license(0, 0, 1, 0, 0), NOT);
        x.days(5);
        x.agree(0, 0, false);
        x.agree(0, 1, true);
        D.due("1 from day 15 on", x.license(0, 0, 1, 0, 0), 3);
    }

    private static void consentOfSharesNow() {
        CopyRegister x = withWork(16);
        x.agree(0, 0, true);
        x.heir(0, 1);
        x.days(3);
        x.death(0, 1);
        D.due("the dead one holds none", x.license(0, 0, 2, 0, 9), NOT);
        x.agree(0, 1, true);
        D.due("the heir does", x.license(0, 0, 2, 0, 9), 0);
        x.death(1, 1);
        D.due("NOBODY does not agree", x.license(0, 0, 2, 0, 9), NOT);
        D.due("a licence to the dead is not refused", withLicenceToTheDead(), 0);
    }

    private static int withLicenceToTheDead() {
        CopyRegister x = withWork(1);
        x.agree(0, 0, true);
        x.death(2, 0);
        return x.license(0, 0, 2, 0, 9);
    }

    private static void licencesFull() {
        CopyRegister x = withWork(16);
        x.agree(0, 0, true);
        for (int i = 0; i < 40; i++) {
            D.due("licence", x.license(0, i % 4, 1, i, i), i);
        }
        D.due("the 41st", x.license(0, 0, 1, 0, 0), FULL);
        D.due("BAD goes first", x.license(0, 4, 1, 0, 0), BAD);
        x.agree(0, 0, false);
        D.due("NOT goes before FULL", x.license(0, 0, 1, 0, 0), NOT);
        D.due("count(4)", x.count(4), 40);
        x.days(39);
        D.due("the last one is there", x.may(0, 3, 1, 39, 39), 1);
    }

    private static void mayRefusals() {
        CopyRegister x = new CopyRegister();
        x.person();
        x.days(5);
        x.work(0);
        x.days(5);
        D.due("no such work", x.may(1, 0, 0, 5, 5), BAD);
        D.due("work -1", x.may(-1, 0, 0, 5, 5), BAD);
        D.due("use -1", x.may(0, -1, 0, 5, 5), BAD);
        D.due("use 4", x.may(0, 4, 0, 5, 5), BAD);
        D.due("no such person", x.may(0, 0, 1, 5, 5), BAD);
        D.due("NOBODY", x.may(0, 0, NOBODY, 5, 5), BAD);
        D.due("t before entry", x.may(0, 0, 0, 4, 5), BAD);
        D.due("k before entry", x.may(0, 0, 0, 5, 4), BAD);
        D.due("t after THE DAY", x.may(0, 0, 0, 11, 5), BAD);
        D.due("k = 3001", x.may(0, 0, 0, 5, 3001), BAD);
        D.due("t = -1", x.may(0, 0, 0, -1, 5), BAD);
        D.due("k = -1", x.may(0, 0, 0, 5, -1), BAD);
        D.due("least t, greatest k", x.may(0, 3, 0, 5, 3000), 1);
        D.due("greatest t, least k", x.may(0, 0, 0, 10, 5), 1);
    }

    private static void mayWhenNotInRight() {
        CopyRegister x = new CopyRegister();
        x.person();
        x.person();
        x.act(0, 10, -1, 0, 1);
        x.work(0);
        x.act(20, 40, -1, 2, 1);
        x.days(50);
        D.due("in right", x.may(0, 0, 1, 10, 50), 0);
        D.due("lapsed", x.may(0, 0, 1, 11, 50), 1);
        D.due("the last free day", x.may(0, 2, 1, 19, 50), 1);
        D.due("revived", x.may(0, 0, 1, 20, 50), 0);
        D.due("as known before the act", x.may(0, 0, 1, 20, 19), 1);
        D.due("the last day", x.may(0, 0, 1, 40, 50), 0);
        D.due("free", x.may(0, 0, 1, 41, 50), 1);
    }

    private static void mayByLicence() {
        CopyRegister x = withWork(1);
        x.work(0);
        x.agree(0, 0, true);
        x.days(10);
        x.license(0, 2, 1, 5, 20);
        x.license(0, 1, 1, 15, 16);
        x.days(20);
        D.due("before it was given", x.may(0, 2, 1, 9, 30), 0);
        D.due("on the day it was given", x.may(0, 2, 1, 10, 30), 1);
        D.due("its last day", x.may(0, 2, 1, 20, 30), 1);
        D.due("over", x.may(0, 2, 1, 21, 30), 0);
        D.due("not begun", x.may(0, 1, 1, 14, 30), 0);
        D.due("begun", x.may(0, 1, 1, 15, 30), 1);
        D.due("known at a day before it was given", x.may(0, 1, 1, 15, 0), 1);
        D.due("another use", x.may(0, 3, 1, 15, 30), 0);
        D.due("another person", x.may(0, 2, 2, 15, 30), 0);
        D.due("another work", x.may(1, 2, 1, 15, 30), 0);
        x.agree(0, 0, false);
        x.sell(0, 0, 2, 16);
        D.due("once given it stands", x.may(0, 2, 1, 20, 30), 1);
    }

    private static void mayByShares() {
        CopyRegister x = withWork(1);
        x.sell(0, 0, 1, 7);
        x.days(5);
        x.sell(0, 0, 1, 1);
        x.days(5);
        x.sell(0, 0, 2, 1);
        x.days(5);
        D.due("7 are too few", x.may(0, 0, 1, 4, 4), 0);
        D.due("8 are enough", x.may(0, 3, 1, 5, 5), 1);
        D.due("both of 8", x.may(0, 0, 0, 9, 9), 1);
        D.due("7 again", x.may(0, 0, 0, 10, 10), 0);
        D.due("now", x.may(0, 0, 1, 15, 15), 1);
        D.due("1 of 16", x.may(0, 0, 2, 15, 15), 0);
        x.heir(0, 2);
        x.death(0, 3);
        D.due("7 and 1 inherited, now", x.may(0, 0, 2, 15, 15), 1);
        D.due("not yesterday", x.may(0, 0, 2, 14, 15), 0);
    }
}
