/** Promises 1 to 6: a new object, days, person, heir, death, died. */
public final class DaysAndPersonsTest {
    private static final int BAD = CopyRegister.BAD, NOT = CopyRegister.NOT, FULL = CopyRegister.FULL;
    private static final int NONE = CopyRegister.NONE, NOBODY = CopyRegister.NOBODY;
    private static final Due D = new Due("DaysAndPersonsTest");

    public static void main(String[] args) {
        newObject();
        objectsAreApart();
        days();
        persons();
        heirs();
        deathRefusals();
        deathReceivers();
        deathMovesSharesAndEndsPledges();
        died();
        D.close();
    }

    private static CopyRegister withPersons(int n) {
        CopyRegister x = new CopyRegister();
        for (int i = 0; i < n; i++) {
            D.due("person()", x.person(), i);
        }
        return x;
    }

    private static void newObject() {
        CopyRegister x = new CopyRegister();
        for (int what = 0; what <= 5; what++) {
            D.due("count(" + what + ") of a new object", x.count(what), 0);
        }
        D.due("died(0, 0) without persons", x.died(0, 0), BAD);
        D.due("heir(0, -1) without persons", x.heir(0, -1), BAD);
        D.due("agree without works", x.agree(0, 0, true), BAD);
        D.due("common(5) was not", x.common(5, false), 0);
        D.due("first person", x.person(), 0);
        D.due("first work", x.work(0), 0);
        D.due("first act", x.act(0, 1, -1, 0, 1), 0);
    }

    private static void objectsAreApart() {
        CopyRegister x = new CopyRegister();
        CopyRegister y = new CopyRegister();
        x.days(7);
        x.person();
        x.work(0);
        x.act(7, 1, 1, 1, 1);
        x.common(3, true);
        for (int what = 0; what <= 5; what++) {
            D.due("count(" + what + ") of the other object", y.count(what), 0);
        }
    }

    private static void days() {
        CopyRegister x = new CopyRegister();
        D.due("days(1)", x.days(1), 1);
        D.due("days(500)", x.days(500), 501);
        D.due("days(0)", x.days(0), BAD);
        D.due("days(-1)", x.days(-1), BAD);
        D.due("days(501)", x.days(501), BAD);
        D.due("days(max)", x.days(Integer.MAX_VALUE), BAD);
        D.due("days(min)", x.days(Integer.MIN_VALUE), BAD);
        D.due("a refusal changes nothing", x.count(0), 501);
        for (int i = 2; i <= 5; i++) {
            D.due("days(500)", x.days(500), 1 + 500 * i);
        }
        D.due("above 3000", x.days(500), BAD);
        D.due("to 2999", x.days(498), 2999);
        D.due("2 above 2999", x.days(2), BAD);
        D.due("to 3000", x.days(1), 3000);
        D.due("above 3000", x.days(1), BAD);
        D.due("still 3000", x.count(0), 3000);
    }

    private static void persons() {
        CopyRegister x = withPersons(12);
        D.due("the 13th", x.person(), FULL);
        D.due("count(1)", x.count(1), 12);
        D.due("heir(11, 0)", x.heir(11, 0), NONE);
        D.due("heir(0, 11)", x.heir(0, 11), NONE);
        D.due("heir(12, 0)", x.heir(12, 0), BAD);
        D.due("heir(0, 12)", x.heir(0, 12), BAD);
    }

    private static void heirs() {
        CopyRegister x = withPersons(3);
        D.due("none at first", x.heir(0, 1), NONE);
        D.due("it was 1", x.heir(0, 2), 1);
        D.due("itself", x.heir(0, 0), BAD);
        D.due("no such heir", x.heir(0, 3), BAD);
        D.due("NOBODY is no heir", x.heir(0, NOBODY), BAD);
        D.due("-2 is no heir", x.heir(0, -2), BAD);
        D.due("no such person", x.heir(3, 0), BAD);
        D.due("person -1", x.heir(-1, 0), BAD);
        D.due("person -1 without heir", x.heir(-1, -1), BAD);
        D.due("refusals change nothing", x.heir(0, -1), 2);
        D.due("none again", x.heir(0, -1), NONE);
        D.due("the other's is its own", x.heir(1, 0), NONE);
        x.death(1, 0);
        D.due("a dead one may be named", x.heir(0, 1), NONE);
        D.due("the heir of a dead one may change", x.heir(1, 2), 0);
    }

    private static void deathRefusals() {
        CopyRegister x = withPersons(2);
        x.days(10);
        D.due("after THE DAY", x.death(0, 11), BAD);
        D.due("day -1", x.death(0, -1), BAD);
        D.due("no such person", x.death(2, 0), BAD);
        D.due("person -1", x.death(-1, 0), BAD);
        D.due("NOBODY does not die", x.death(NOBODY, 0), BAD);
        D.due("not told yet", x.died(0, 3000), NONE);
        D.due("on THE DAY", x.death(0, 10), NOBODY);
        D.due("once", x.death(0, 10), NOT);
        D.due("once, also on another day", x.death(0, 4), NOT);
        D.due("BAD goes first", x.death(0, 11), BAD);
        D.due("the first stands", x.died(0, 10), 10);
        D.due("on day 0", x.death(1, 0), NOBODY);
        D.due("died(1)", x.died(1, 10), 0);
    }

    private static void deathReceivers() {
        CopyRegister x = withPersons(5);
        x.heir(0, 1);
        D.due("heir, without shares", x.death(0, 0), 1);
        x.heir(2, 0);
        D.due("heir is dead", x.death(2, 0), NOBODY);
        x.heir(3, 4);
        x.heir(3, -1);
        D.due("heir was taken back", x.death(3, 0), NOBODY);
        x.heir(4, 1);
        x.heir(1, 4);
        D.due("both heirs of one another", x.death(4, 0), 1);
        D.due("the one left", x.death(1, 0), NOBODY);
    }

    private static void deathMovesSharesAndEndsPledges() {
        CopyRegister x = withPersons(4);
        x.work(0);
        x.work(0);
        x.work(1);
        x.days(5);
        x.sell(0, 0, 1, 6);
        x.pledge(0, 0, 2, 3);
        x.pledge(1, 0, 2, 16);
        x.pledge(0, 1, 0, 2);
        x.pledge(0, 1, 3, 3);
        x.heir(0, 1);
        x.days(5);
        D.due("death(0, 2)", x.death(0, 2), 1);
        D.due("work 0, dead", x.held(0, 0, 10), 0);
        D.due("work 0, heir", x.held(0, 1, 10), 16);
        D.due("work 1, heir", x.held(1, 1, 10), 16);
        D.due("work 2 was the heir's", x.held(2, 1, 10), 16);
        D.due("shares move when it is told", x.held(0, 0, 9), 10);
        D.due("not on the day of death", x.held(0, 1, 5), 6);
        D.due("its pledge ended", x.redeem(0, 0, 2), NOT);
        D.due("of each work", x.redeem(1, 0, 2), NOT);
        D.due("the heir's own pledges stand", x.sell(0, 1, 2, 12), NOT);
        D.due("what came is free", x.sell(0, 1, 2, 11), 1);
        D.due("a pledge to the dead stands", x.redeem(0, 1, 0), 2);
        D.due("another pledge stands", x.redeem(0, 1, 3), 3);
        x.pledge(0, 1, 0, 1);
        x.pledge(0, 1, 3, 1);
        D.due("the heir of the heir", x.death(1, 10), NOBODY);
        D.due("its pledge to the first one ended", x.redeem(0, 1, 0), NOT);
        D.due("its pledge to the last one ended", x.redeem(0, 1, 3), NOT);
        D.due("to NOBODY", x.held(0, NOBODY, 10), 5);
        D.due("to NOBODY, whole works", x.held(1, NOBODY, 10) + x.held(2, NOBODY, 10), 32);
        D.due("the buyer's stay", x.held(0, 2, 10), 11);
        D.due("more come to NOBODY", x.death(2, 0), NOBODY);
        D.due("they add up", x.held(0, NOBODY, 10), 16);
    }

    private static void died() {
        CopyRegister x = withPersons(2);
        x.days(20);
        x.death(0, 7);
        D.due("before it was learnt", x.died(0, 19), NONE);
        D.due("on its own day", x.died(0, 7), NONE);
        D.due("as it was learnt", x.died(0, 20), 7);
        D.due("later", x.died(0, 3000), 7);
        D.due("k = 3001", x.died(0, 3001), BAD);
        D.due("k = -1", x.died(0, -1), BAD);
        D.due("k = 0", x.died(0, 0), NONE);
        D.due("alive", x.died(1, 3000), NONE);
        D.due("no such person", x.died(2, 0), BAD);
        D.due("person -1", x.died(-1, 0), BAD);
        D.due("NOBODY", x.died(NOBODY, 0), BAD);
    }
}
