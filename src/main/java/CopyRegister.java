/**
 * A register of copies: works, the acts that give them their terms, who holds
 * their shares, who may print them, and which were printed from one another.
 *
 * Each call first looks for what is BAD, then for what can't be done now
 * (NOT), then for want of room (FULL), and changes nothing if it refuses.
 */
public final class CopyRegister {
    public static final int NONE = -1, BAD = -2, NOT = -3, FULL = -4, NOBODY = -5;

    private static final int LAST_DAY = 3000;
    private static final int MAX_STEP = 500;
    private static final int MAX_PERSONS = 12;
    private static final int MAX_ACTS = 6;
    private static final int MAX_WORKS = 20;
    private static final int MAX_LICENCES = 40;
    private static final int MAX_LINES = 20;
    private static final int MAX_COMMON = 20;
    private static final int MAX_TERM = 2000;
    private static final int MAX_USE = 3;
    private static final int MAX_LINE_NUMBER = 999;
    private static final int ALL_SHARES = 16;
    private static final int SHARES_TO_PRINT = 8;
    private static final int NO_LIFE = -1;
    private static final int LENGTHENS = 1;
    private static final int REVIVES = 2;
    /** Later than every day, so that the later one of it and any END is itself. */
    private static final int GOES_ON = Integer.MAX_VALUE;

    private int today;
    private final Person[] persons;
    private int personCount;
    private final Acts acts;
    private final Work[] works;
    private int workCount;
    private final Licence[] licences;
    private int licenceCount;
    private final CommonLines commonLines;
    private final Comparison comparison;

    public CopyRegister() {
        today = 0;
        persons = new Person[MAX_PERSONS];
        personCount = 0;
        acts = new Acts();
        works = new Work[MAX_WORKS];
        workCount = 0;
        licences = new Licence[MAX_LICENCES];
        licenceCount = 0;
        commonLines = new CommonLines();
        comparison = new Comparison();
    }

    public int days(int n) {
        if (!isWithin(n, 1, MAX_STEP) || today + n > LAST_DAY) {
            return BAD;
        }
        today += n;
        return today;
    }

    // ---- persons

    public int person() {
        if (personCount >= MAX_PERSONS) {
            return FULL;
        }
        persons[personCount] = new Person();
        personCount++;
        return personCount - 1;
    }

    public int heir(int person, int heir) {
        Person p = personAt(person);
        if (p == null || heir == person || (heir != NONE && personAt(heir) == null)) {
            return BAD;
        }
        int before = p.heirNumber;
        p.heirNumber = heir;
        return before;
    }

    public int death(int person, int day) {
        Person dead = personAt(person);
        if (dead == null || !isWithin(day, 0, today)) {
            return BAD;
        }
        if (dead.isToldDead()) {
            return NOT;
        }
        dead.tellDead(day, today);
        int receiver = receiverFrom(dead);
        for (int i = 0; i < workCount; i++) {
            Work w = workAt(i);
            if (w != null) {
                w.shares.passOn(person, receiver, today);
            }
        }
        return receiver;
    }

    public int died(int person, int k) {
        Person p = personAt(person);
        if (p == null || !isDay(k)) {
            return BAD;
        }
        return p.isDeathKnownAt(k) ? p.deathDay : NONE;
    }

    // ---- acts, works

    public int act(int day, int fix, int life, int way, int consent) {
        if (!isWithin(day, today, LAST_DAY) || !acts.allEarlierThan(day)
                || !isWithin(fix, 0, MAX_TERM) || !isWithin(life, NO_LIFE, MAX_TERM)
                || !isWithin(way, 0, REVIVES) || !isWithin(consent, 1, ALL_SHARES)) {
            return BAD;
        }
        return acts.append(new Act(day, fix, life, way, consent));
    }

    public int work(int author) {
        Person p = personAt(author);
        if (p == null) {
            return BAD;
        }
        if (p.isToldDead()) {
            return NOT;
        }
        if (workCount >= MAX_WORKS) {
            return FULL;
        }
        works[workCount] = new Work(p, author, today);
        workCount++;
        return workCount - 1;
    }

    public int end(int work, int k) {
        Work w = workAt(work);
        if (w == null || !isDayOf(w, k)) {
            return BAD;
        }
        int last = acts.endKnownAt(w, k);
        return last == GOES_ON ? NONE : last;
    }

    public int inRight(int work, int t, int k) {
        Work w = workAt(work);
        if (w == null || !isDay(t) || !isDayOf(w, k)) {
            return BAD;
        }
        return oneIf(acts.protect(w, t, k));
    }

    // ---- shares

    public int sell(int work, int from, int to, int n) {
        Work w = workAt(work);
        Person buyer = personAt(to);
        if (w == null || buyer == null || !areTwoPersons(from, to) || !isWithin(n, 1, ALL_SHARES)) {
            return BAD;
        }
        if (w.shares.freeOf(from) < n || buyer.isToldDead()) {
            return NOT;
        }
        w.shares.move(from, to, n, today);
        return 1;
    }

    public int pledge(int work, int person, int to, int n) {
        Work w = workAt(work);
        if (w == null || !areTwoPersons(person, to) || !isWithin(n, 1, ALL_SHARES)) {
            return BAD;
        }
        if (w.shares.freeOf(person) < n) {
            return NOT;
        }
        w.shares.addPledge(person, to, n);
        return w.shares.pledgedBy(person);
    }

    public int redeem(int work, int person, int to) {
        Work w = workAt(work);
        if (w == null || !areTwoPersons(person, to)) {
            return BAD;
        }
        int n = w.shares.dropPledge(person, to);
        return n == 0 ? NOT : n;
    }

    public int held(int work, int person, int t) {
        Work w = workAt(work);
        if (w == null || (person != NOBODY && personAt(person) == null)
                || !isWithin(t, w.entryDay, today)) {
            return BAD;
        }
        return w.shares.ownedOn(person, t);
    }

    // ---- licences

    public int agree(int work, int person, boolean on) {
        Work w = workAt(work);
        if (w == null || personAt(person) == null) {
            return BAD;
        }
        return oneIf(w.setAgreeing(person, on));
    }

    public int license(int work, int use, int person, int from, int to) {
        Work w = workAt(work);
        if (w == null || !isWithin(use, 0, MAX_USE) || personAt(person) == null
                || !isDay(from) || !isDay(to) || to < from) {
            return BAD;
        }
        if (!acts.protect(w, today, today) || w.agreeingShares() < acts.consentOn(today)) {
            return NOT;
        }
        if (licenceCount >= MAX_LICENCES) {
            return FULL;
        }
        licences[licenceCount] = new Licence(work, use, person, today, from, to);
        licenceCount++;
        return licenceCount - 1;
    }

    public int may(int work, int use, int person, int t, int k) {
        Work w = workAt(work);
        if (w == null || !isWithin(use, 0, MAX_USE) || personAt(person) == null
                || !isWithin(t, w.entryDay, today) || !isDayOf(w, k)) {
            return BAD;
        }
        return oneIf(!acts.protect(w, t, k)
                || w.shares.ownedOn(person, t) >= SHARES_TO_PRINT
                || isLicensed(work, use, person, t));
    }

    // ---- lines

    public int line(int work, int x) {
        Work w = workAt(work);
        if (w == null || !isWithin(x, 1, MAX_LINE_NUMBER)) {
            return BAD;
        }
        return w.lines.append(x);
    }

    public int common(int x, boolean on) {
        if (!isWithin(x, 1, MAX_LINE_NUMBER)) {
            return BAD;
        }
        return commonLines.mark(x, on);
    }

    public int alike(int a, int b) {
        Work first = workAt(a);
        Work second = workAt(b);
        if (first == null || second == null) {
            return BAD;
        }
        return comparison.measure(first.lines, second.lines, commonLines);
    }

    public int pair(int a, int b, int i, int way) {
        Work first = workAt(a);
        Work second = workAt(b);
        if (first == null || second == null || i < 0 || !isWithin(way, 0, 1)) {
            return BAD;
        }
        return comparison.placeOf(first.lines, second.lines, commonLines, i, way == 0);
    }

    public int copied(int a, int b, int p) {
        Work first = workAt(a);
        Work second = workAt(b);
        if (first == null || second == null || !isWithin(p, 1, 100)) {
            return BAD;
        }
        int rowLength = comparison.measure(first.lines, second.lines, commonLines);
        int ownLines = first.lines.sizeWithout(commonLines);
        return oneIf(rowLength > 0 && 100 * rowLength >= p * ownLines);
    }

    public int count(int what) {
        switch (what) {
            case 0: return today;
            case 1: return personCount;
            case 2: return acts.size;
            case 3: return workCount;
            case 4: return licenceCount;
            case 5: return commonLines.size;
            default: return BAD;
        }
    }

    // ---- what the calls above share

    private static boolean isWithin(int x, int least, int most) {
        return x >= least && x <= most;
    }

    private static boolean isDay(int x) {
        return isWithin(x, 0, LAST_DAY);
    }

    private static boolean isDayOf(Work w, int k) {
        return isWithin(k, w.entryDay, LAST_DAY);
    }

    private static int oneIf(boolean yes) {
        return yes ? 1 : 0;
    }

    private Person personAt(int i) {
        return i >= 0 && i < personCount && i < persons.length ? persons[i] : null;
    }

    private Work workAt(int i) {
        return i >= 0 && i < workCount && i < works.length ? works[i] : null;
    }

    private boolean areTwoPersons(int one, int other) {
        return one != other && personAt(one) != null && personAt(other) != null;
    }

    private int receiverFrom(Person dead) {
        Person next = personAt(dead.heirNumber);
        return next == null || next.isToldDead() ? NOBODY : dead.heirNumber;
    }

    private boolean isLicensed(int work, int use, int person, int t) {
        for (int i = 0; i < licenceCount && i < licences.length; i++) {
            Licence l = licences[i];
            if (l != null && l.fits(work, use, person) && l.coversDay(t)) {
                return true;
            }
        }
        return false;
    }

    private static final class Person {
        private int heirNumber;
        private int deathDay;
        private int learntDay;

        Person() {
            heirNumber = NONE;
            deathDay = NONE;
            learntDay = NONE;
        }

        void tellDead(int day, int learnt) {
            deathDay = day;
            learntDay = learnt;
        }

        boolean isToldDead() {
            return deathDay != NONE;
        }

        boolean isDeathKnownAt(int k) {
            return isToldDead() && learntDay <= k;
        }
    }

    private static final class Act {
        private final int day;
        private final int fix;
        private final int life;
        private final int way;
        private final int consent;

        Act(int day, int fix, int life, int way, int consent) {
            this.day = day;
            this.fix = fix;
            this.life = life;
            this.way = way;
            this.consent = consent;
        }

        int endFor(Work w, int k) {
            int fixed = w.entryDay + fix;
            if (life == NO_LIFE) {
                return fixed;
            }
            if (!w.author.isDeathKnownAt(k)) {
                return GOES_ON;
            }
            return Math.max(fixed, w.author.deathDay + life);
        }

        /** Works entered on the act's own day have their first END by it, so it does not come to them later. */
        boolean comesLaterTo(Work w, int k) {
            return day > w.entryDay && day <= k;
        }

        boolean changes(int endSoFar) {
            return way == REVIVES || (way == LENGTHENS && endSoFar >= day);
        }

        /** The days between a lapse and the act that revives stay free whatever END becomes. */
        boolean leavesFree(int t, int endSoFar) {
            return way == REVIVES && t > endSoFar && t < day;
        }
    }

    private static final class Acts {
        private final Act[] rows;
        private int size;

        Acts() {
            rows = new Act[MAX_ACTS];
            size = 0;
        }

        private Act rowAt(int i) {
            return i >= 0 && i < size && i < rows.length ? rows[i] : null;
        }

        boolean allEarlierThan(int day) {
            Act last = rowAt(size - 1);
            return last == null || last.day < day;
        }

        int append(Act a) {
            if (size >= rows.length) {
                return FULL;
            }
            rows[size] = a;
            size++;
            return size - 1;
        }

        Act inForceOn(int day) {
            for (int i = size - 1; i >= 0; i--) {
                Act a = rowAt(i);
                if (a != null && a.day <= day) {
                    return a;
                }
            }
            return null;
        }

        int consentOn(int day) {
            Act a = inForceOn(day);
            return a == null ? ALL_SHARES : a.consent;
        }

        int endKnownAt(Work w, int k) {
            return endAheadOf(size, w, k);
        }

        /** END so far, before the act of this number came. */
        private int endAheadOf(int number, Work w, int k) {
            Act first = inForceOn(w.entryDay);
            int endSoFar = first == null ? w.entryDay : first.endFor(w, k);
            for (int i = 0; i < number; i++) {
                Act a = rowAt(i);
                if (a != null && a.comesLaterTo(w, k) && a.changes(endSoFar)) {
                    endSoFar = Math.max(endSoFar, a.endFor(w, k));
                }
            }
            return endSoFar;
        }

        boolean protect(Work w, int t, int k) {
            return w.entryDay <= t && t <= endKnownAt(w, k) && !leaveFree(w, t, k);
        }

        private boolean leaveFree(Work w, int t, int k) {
            for (int i = 0; i < size; i++) {
                Act a = rowAt(i);
                if (a != null && a.comesLaterTo(w, k) && a.leavesFree(t, endAheadOf(i, w, k))) {
                    return true;
                }
            }
            return false;
        }
    }

    private static final class Work {
        private final Person author;
        private final int entryDay;
        private final Shares shares;
        private final boolean[] agreeing;
        private final Lines lines;

        Work(Person author, int authorNumber, int entryDay) {
            this.author = author;
            this.entryDay = entryDay;
            shares = new Shares(authorNumber, entryDay);
            agreeing = new boolean[MAX_PERSONS];
            lines = new Lines();
        }

        boolean setAgreeing(int person, boolean on) {
            if (person < 0 || person >= agreeing.length) {
                return false;
            }
            boolean before = agreeing[person];
            agreeing[person] = on;
            return before;
        }

        int agreeingShares() {
            int sum = 0;
            for (int i = 0; i < agreeing.length; i++) {
                if (agreeing[i]) {
                    sum += shares.ownedNow(i);
                }
            }
            return sum;
        }
    }

    /** The shares of one work: who owns them, now and on earlier days, and who pledged them to whom. */
    private static final class Shares {
        private Page newest;
        private final int[][] pledged;

        Shares(int author, int day) {
            newest = new Page(day, null);
            newest.change(author, ALL_SHARES);
            pledged = new int[MAX_PERSONS][MAX_PERSONS];
        }

        int ownedNow(int person) {
            return newest.sharesOf(person);
        }

        int ownedOn(int person, int t) {
            for (Page p = newest; p != null; p = p.before) {
                if (p.day <= t) {
                    return p.sharesOf(person);
                }
            }
            return 0;
        }

        int freeOf(int person) {
            return ownedNow(person) - pledgedBy(person);
        }

        int pledgedBy(int person) {
            int sum = 0;
            for (int to = 0; to < MAX_PERSONS; to++) {
                sum += pledgedTo(person, to);
            }
            return sum;
        }

        private int pledgedTo(int person, int to) {
            return canPledge(person, to) ? pledged[person][to] : 0;
        }

        private static boolean canPledge(int person, int to) {
            return isWithin(person, 0, MAX_PERSONS - 1) && isWithin(to, 0, MAX_PERSONS - 1);
        }

        void addPledge(int person, int to, int n) {
            if (canPledge(person, to)) {
                pledged[person][to] += n;
            }
        }

        int dropPledge(int person, int to) {
            int n = pledgedTo(person, to);
            addPledge(person, to, -n);
            return n;
        }

        void move(int from, int to, int n, int today) {
            if (newest.day < today) {
                newest = new Page(today, newest);
            }
            newest.change(from, -n);
            newest.change(to, n);
        }

        void passOn(int dead, int receiver, int today) {
            for (int to = 0; to < MAX_PERSONS; to++) {
                dropPledge(dead, to);
            }
            int n = ownedNow(dead);
            if (n > 0) {
                move(dead, receiver, n, today);
            }
        }
    }

    /**
     * Who owned how many shares from one day until the day of the next page.
     * A day on which nothing changed has no page; so there are never more
     * pages of a work than days.
     */
    private static final class Page {
        private final int day;
        private final Page before;
        private final int[] owned;

        Page(int day, Page before) {
            this.day = day;
            this.before = before;
            owned = new int[MAX_PERSONS + 1];
            if (before != null) {
                System.arraycopy(before.owned, 0, owned, 0, owned.length);
            }
        }

        /** NOBODY's shares stand behind those of the last person. */
        private static int placeOf(int person) {
            return person == NOBODY ? MAX_PERSONS : person;
        }

        int sharesOf(int person) {
            int i = placeOf(person);
            return i >= 0 && i < owned.length ? owned[i] : 0;
        }

        void change(int person, int n) {
            int i = placeOf(person);
            if (i >= 0 && i < owned.length) {
                owned[i] += n;
            }
        }
    }

    private static final class Licence {
        private final int work;
        private final int use;
        private final int person;
        private final int givenDay;
        private final int from;
        private final int to;

        Licence(int work, int use, int person, int givenDay, int from, int to) {
            this.work = work;
            this.use = use;
            this.person = person;
            this.givenDay = givenDay;
            this.from = from;
            this.to = to;
        }

        boolean fits(int otherWork, int otherUse, int otherPerson) {
            return work == otherWork && use == otherUse && person == otherPerson;
        }

        boolean coversDay(int t) {
            return givenDay <= t && from <= t && t <= to;
        }
    }

    private static final class Lines {
        private final int[] rows;
        private int size;

        Lines() {
            rows = new int[MAX_LINES];
            size = 0;
        }

        int append(int x) {
            if (size >= rows.length) {
                return FULL;
            }
            rows[size] = x;
            size++;
            return size;
        }

        int rowAt(int i) {
            return i >= 0 && i < size && i < rows.length ? rows[i] : 0;
        }

        int firstPlaceOf(int x, int start) {
            for (int i = start; i < size; i++) {
                if (rowAt(i) == x) {
                    return i;
                }
            }
            return NONE;
        }

        int sizeWithout(CommonLines common) {
            int n = 0;
            for (int i = 0; i < size; i++) {
                if (!common.contain(rowAt(i))) {
                    n++;
                }
            }
            return n;
        }
    }

    private static final class CommonLines {
        private final boolean[] marks;
        private int size;

        CommonLines() {
            marks = new boolean[MAX_LINE_NUMBER + 1];
            size = 0;
        }

        boolean contain(int x) {
            return x >= 0 && x < marks.length && marks[x];
        }

        /** Answers whether the line was common, or refuses one too many. */
        int mark(int x, boolean on) {
            if (x < 0 || x >= marks.length) {
                return BAD;
            }
            boolean before = marks[x];
            if (on && !before && size >= MAX_COMMON) {
                return FULL;
            }
            marks[x] = on;
            size += oneIf(on) - oneIf(before);
            return oneIf(before);
        }
    }

    private static final class Comparison {
        /** rest[i][j]: the length of the longest row in both from place i and place j on. */
        private final int[][] rest;

        Comparison() {
            rest = new int[MAX_LINES + 1][MAX_LINES + 1];
        }

        private static boolean isPlace(int i) {
            return i >= 0 && i <= MAX_LINES;
        }

        private int restFrom(int i, int j) {
            return isPlace(i) && isPlace(j) ? rest[i][j] : 0;
        }

        private void setRest(int i, int j, int n) {
            if (isPlace(i) && isPlace(j)) {
                rest[i][j] = n;
            }
        }

        int measure(Lines a, Lines b, CommonLines common) {
            clearEdges(a.size, b.size);
            for (int i = a.size - 1; i >= 0; i--) {
                int x = a.rowAt(i);
                boolean counts = !common.contain(x);
                for (int j = b.size - 1; j >= 0; j--) {
                    setRest(i, j, counts && x == b.rowAt(j)
                            ? restFrom(i + 1, j + 1) + 1
                            : Math.max(restFrom(i + 1, j), restFrom(i, j + 1)));
                }
            }
            return restFrom(0, 0);
        }

        /** The table is used again for other works, so what lies behind the last lines must be wiped. */
        private void clearEdges(int sizeA, int sizeB) {
            for (int i = 0; i <= sizeA; i++) {
                setRest(i, sizeB, 0);
            }
            for (int j = 0; j <= sizeB; j++) {
                setRest(sizeA, j, 0);
            }
        }

        /**
         * Place of pair number `index`, or NONE.
         * For a place in a, the first match in b is always the best one: it
         * leaves the most of b to the pairs that follow. So a place in a
         * belongs to the least pick as soon as that match loses nothing.
         */
        int placeOf(Lines a, Lines b, CommonLines common, int index, boolean inFirst) {
            int missing = measure(a, b, common);
            int startB = 0;
            int found = 0;
            for (int i = 0; i < a.size; i++) {
                int x = a.rowAt(i);
                int j = common.contain(x) ? NONE : b.firstPlaceOf(x, startB);
                if (j != NONE && restFrom(i + 1, j + 1) + 1 == missing) {
                    if (found == index) {
                        return inFirst ? i : j;
                    }
                    found++;
                    missing--;
                    startB = j + 1;
                }
            }
            return NONE;
        }
    }
}
