import java.util.Arrays;
import java.util.Random;

/**
 * Runs of 512 calls, the same ones each time, on CopyRegister and on the
 * naive register: all answers must be the same.
 */
public final class RandomRunsTest {
    private static final int RUNS = 600;
    private static final int CALLS = 512;
    private static final Due D = new Due("RandomRunsTest");

    private final Random random;
    private final CopyRegister x = new CopyRegister();
    private final NaiveRegister y = new NaiveRegister();
    /** How far a run goes: long terms and great steps, or all of it close together. */
    private final int span;
    private final int lineKinds;

    private RandomRunsTest(long seed) {
        random = new Random(seed);
        span = new int[] {6, 30, 200, 2000}[random.nextInt(4)];
        lineKinds = new int[] {2, 4, 9, 40}[random.nextInt(4)];
    }

    public static void main(String[] args) {
        for (int seed = 0; seed < RUNS && D.wrongSoFar() == 0; seed++) {
            new RandomRunsTest(seed).run(seed);
        }
        D.close();
    }

    private void run(int seed) {
        for (int i = 0; i < CALLS && D.wrongSoFar() == 0; i++) {
            int kind = i < 8 ? new int[] {1, 1, 1, 6, 7, 7, 1, 7}[i] : random.nextInt(35);
            step("seed " + seed + ", call " + i + ": ", kind);
        }
    }

    private int upTo(int most) {
        return random.nextInt(most + 1);
    }

    /** Mostly a number in use, now and then one just outside or far off. */
    private int near(int count) {
        int dice = random.nextInt(60);
        if (dice == 0) return -1;
        if (dice == 1) return count;
        if (dice == 2) return CopyRegister.NOBODY;
        if (dice == 3) return random.nextInt();
        return count == 0 ? 0 : random.nextInt(count);
    }

    private int aPerson() {
        return near(x.count(1));
    }

    private int aWork() {
        return random.nextInt(4) == 0 ? near(x.count(3)) : near(Math.min(3, x.count(3)));
    }

    private int aDay() {
        int dice = random.nextInt(20);
        if (dice == 0) return random.nextInt(3003) - 1;
        return x.count(0) + (random.nextBoolean() ? upTo(span) : -upTo(span));
    }

    private int aTerm() {
        int dice = random.nextInt(40);
        if (dice == 0) return 2001;
        if (dice == 1) return -2;
        return Math.min(2000, upTo(span + 3));
    }

    private int aLine() {
        return random.nextInt(50) == 0 ? random.nextInt(1002) - 1 : 1 + random.nextInt(lineKinds);
    }

    private void step(String at, int kind) {
        if (kind <= 9) {
            tell(at, kind);
        } else if (kind <= 18) {
            trade(at, kind);
        } else {
            ask(at, kind);
        }
    }

    private void same(String at, String call, int[] args, int got, int want) {
        D.due(at + call + Arrays.toString(args), got, want);
    }

    private void tell(String at, int kind) {
        int[] a;
        switch (kind) {
            case 0 -> {
                a = new int[] {random.nextInt(30) == 0 ? random.nextInt(520) - 5 : 1 + upTo(span / 6)};
                same(at, "days", a, x.days(a[0]), y.days(a[0]));
            }
            case 1 -> same(at, "person", new int[0], x.person(), y.person());
            case 2 -> {
                a = new int[] {aPerson(), random.nextInt(5) == 0 ? -1 : aPerson()};
                same(at, "heir", a, x.heir(a[0], a[1]), y.heir(a[0], a[1]));
            }
            case 3 -> {
                if (random.nextInt(3) != 0) return;
                a = new int[] {aPerson(), aDay()};
                same(at, "death", a, x.death(a[0], a[1]), y.death(a[0], a[1]));
            }
            case 4 -> {
                a = new int[] {aPerson(), aDay()};
                same(at, "died", a, x.died(a[0], a[1]), y.died(a[0], a[1]));
            }
            case 5, 6 -> {
                if (kind == 5 && random.nextInt(4) != 0) return;
                a = new int[] {x.count(0) + upTo(span / 3), aTerm(),
                    random.nextBoolean() ? -1 : aTerm(), random.nextInt(40) == 0 ? 3 : upTo(2),
                    random.nextInt(40) == 0 ? 17 : 1 + upTo(15)};
                same(at, "act", a, x.act(a[0], a[1], a[2], a[3], a[4]), y.act(a[0], a[1], a[2], a[3], a[4]));
            }
            case 7 -> {
                a = new int[] {aPerson()};
                same(at, "work", a, x.work(a[0]), y.work(a[0]));
            }
            default -> {
                a = new int[] {aLine()};
                boolean on = random.nextInt(3) != 0;
                same(at, "common " + on, a, x.common(a[0], on), y.common(a[0], on));
            }
        }
    }

    private void trade(String at, int kind) {
        int n = random.nextInt(30) == 0 ? random.nextInt(20) - 1 : 1 + upTo(6);
        int[] a = {aWork(), aPerson(), aPerson(), n};
        switch (kind) {
            case 10, 11 -> same(at, "sell", a, x.sell(a[0], a[1], a[2], a[3]), y.sell(a[0], a[1], a[2], a[3]));
            case 12 -> same(at, "pledge", a, x.pledge(a[0], a[1], a[2], a[3]), y.pledge(a[0], a[1], a[2], a[3]));
            case 13 -> same(at, "redeem", a, x.redeem(a[0], a[1], a[2]), y.redeem(a[0], a[1], a[2]));
            case 14, 15 -> {
                boolean on = random.nextInt(4) != 0;
                same(at, "agree " + on, a, x.agree(a[0], a[1], on), y.agree(a[0], a[1], on));
            }
            case 16, 17 -> {
                int[] l = {aWork(), random.nextInt(40) == 0 ? 4 : upTo(3), aPerson(), aDay(), aDay()};
                same(at, "license", l, x.license(l[0], l[1], l[2], l[3], l[4]),
                        y.license(l[0], l[1], l[2], l[3], l[4]));
            }
            default -> {
                a[1] = aLine();
                same(at, "line", a, x.line(a[0], a[1]), y.line(a[0], a[1]));
            }
        }
    }

    private void ask(String at, int kind) {
        int[] a = {aWork(), aDay(), aDay(), aPerson()};
        int[] b = {aWork(), aWork(), random.nextInt(12) - 1, random.nextInt(30) == 0 ? 2 : upTo(1)};
        switch (kind) {
            case 19, 20 -> same(at, "end", a, x.end(a[0], a[1]), y.end(a[0], a[1]));
            case 21, 22, 23 -> same(at, "inRight", a, x.inRight(a[0], a[1], a[2]), y.inRight(a[0], a[1], a[2]));
            case 24, 25 -> same(at, "held (work, day, -, person)", a,
                    x.held(a[0], a[3], a[1]), y.held(a[0], a[3], a[1]));
            case 26, 27 -> {
                int use = random.nextInt(40) == 0 ? -1 : upTo(3);
                same(at, "may use " + use + " (work, t, k, person)", a,
                        x.may(a[0], use, a[3], a[1], a[2]), y.may(a[0], use, a[3], a[1], a[2]));
            }
            case 28 -> same(at, "alike", b, x.alike(b[0], b[1]), y.alike(b[0], b[1]));
            case 29, 30 -> same(at, "pair", b, x.pair(b[0], b[1], b[2], b[3]), y.pair(b[0], b[1], b[2], b[3]));
            case 31 -> {
                int p = random.nextInt(103) - 1;
                same(at, "copied by " + p, b, x.copied(b[0], b[1], p), y.copied(b[0], b[1], p));
            }
            case 32, 33 -> {
                b[1] = aLine();
                same(at, "line", b, x.line(b[0], b[1]), y.line(b[0], b[1]));
            }
            default -> {
                int what = random.nextInt(8) - 1;
                same(at, "count " + what, new int[0], x.count(what), y.count(what));
            }
        }
    }
}
