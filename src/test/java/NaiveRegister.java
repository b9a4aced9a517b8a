import java.util.ArrayList;
import java.util.HashMap;
import java.util.List;
import java.util.Map;
import java.util.TreeSet;

/**
 * The document's words again, in the most roundabout way: nothing is kept but
 * what was told and when, and each answer is worked out anew from all of it.
 * It finds slips in CopyRegister's ways of keeping and counting. It can't find
 * a wrong reading of the document: both were written from the same reading.
 */
final class NaiveRegister {
    private static final int NONE = -1, BAD = -2, NOT = -3, FULL = -4, NOBODY = -5;
    private static final double NEVER = Double.POSITIVE_INFINITY;

    private record ActTold(int day, int fix, int life, int way, int consent) { }
    private record DeathTold(int day, int learnt) { }
    private record WorkTold(int author, int entry, List<Integer> lines) { }
    private record MoveTold(int day, int work, int from, int to, int n) { }
    private record LicenceTold(int given, int work, int use, int person, int from, int to) { }
    private record PledgeKey(int work, int person, int to) { }
    private record AgreeKey(int work, int person) { }

    private int today = 0;
    private int persons = 0;
    private final Map<Integer, Integer> heirs = new HashMap<>();
    private final Map<Integer, DeathTold> deaths = new HashMap<>();
    private final List<ActTold> acts = new ArrayList<>();
    private final List<WorkTold> works = new ArrayList<>();
    private final List<MoveTold> moves = new ArrayList<>();
    private final Map<PledgeKey, Integer> pledges = new HashMap<>();
    private final Map<AgreeKey, Boolean> agreed = new HashMap<>();
    private final List<LicenceTold> licences = new ArrayList<>();
    private final TreeSet<Integer> commons = new TreeSet<>();

    private boolean noPerson(int p) {
        return p < 0 || p >= persons;
    }

    private boolean noWork(int w) {
        return w < 0 || w >= works.size();
    }

    private static boolean out(int x, int least, int most) {
        return x < least || x > most;
    }

    int days(int n) {
        if (out(n, 1, 500) || (long) today + n > 3000) return BAD;
        return today += n;
    }

    int person() {
        return persons == 12 ? FULL : persons++;
    }

    int heir(int person, int heir) {
        if (noPerson(person) || person == heir || (heir != -1 && noPerson(heir))) return BAD;
        Integer was = heirs.put(person, heir);
        return was == null ? NONE : was;
    }

    int death(int person, int day) {
        if (noPerson(person) || out(day, 0, today)) return BAD;
        if (deaths.containsKey(person)) return NOT;
        deaths.put(person, new DeathTold(day, today));
        int heir = heirs.getOrDefault(person, NONE);
        int to = heir == NONE || deaths.containsKey(heir) ? NOBODY : heir;
        for (int w = 0; w < works.size(); w++) {
            moves.add(new MoveTold(today, w, person, to, heldOn(w, person, today)));
        }
        pledges.keySet().removeIf(key -> key.person() == person);
        return to;
    }

    int died(int person, int k) {
        if (noPerson(person) || out(k, 0, 3000)) return BAD;
        DeathTold d = deaths.get(person);
        return d == null || d.learnt() > k ? NONE : d.day();
    }

    int act(int day, int fix, int life, int way, int consent) {
        if (out(day, today, 3000) || out(fix, 0, 2000) || out(life, -1, 2000)
                || out(way, 0, 2) || out(consent, 1, 16)) return BAD;
        for (ActTold a : acts) {
            if (a.day() >= day) return BAD;
        }
        if (acts.size() == 6) return FULL;
        acts.add(new ActTold(day, fix, life, way, consent));
        return acts.size() - 1;
    }

    int work(int author) {
        if (noPerson(author)) return BAD;
        if (deaths.containsKey(author)) return NOT;
        if (works.size() == 20) return FULL;
        works.add(new WorkTold(author, today, new ArrayList<>()));
        return works.size() - 1;
    }

    private double endBy(ActTold a, WorkTold w, int k) {
        double fixed = w.entry() + a.fix();
        if (a.life() == -1) return fixed;
        int died = died(w.author(), k);
        return died == NONE ? NEVER : Math.max(fixed, died + a.life());
    }

    /** END, and the days that an act of way 2 left free struck out of `free`. */
    private double endAndFree(WorkTold w, int k, boolean[] free) {
        double end = w.entry();
        for (ActTold a : acts) {
            if (a.day() <= w.entry()) end = endBy(a, w, k);
        }
        for (ActTold a : acts) {
            int d = a.day();
            if (d <= w.entry() || d > k || a.way() == 0) continue;
            if (a.way() == 2) {
                for (int t = 0; t <= 3000; t++) {
                    if (t > end && t < d) free[t] = true;
                }
            }
            if (a.way() == 2 || end >= d) end = Math.max(end, endBy(a, w, k));
        }
        return end;
    }

    int end(int work, int k) {
        if (noWork(work) || out(k, works.get(work).entry(), 3000)) return BAD;
        double end = endAndFree(works.get(work), k, new boolean[3001]);
        return end == NEVER ? NONE : (int) end;
    }

    int inRight(int work, int t, int k) {
        if (noWork(work) || out(t, 0, 3000) || out(k, works.get(work).entry(), 3000)) return BAD;
        boolean[] free = new boolean[3001];
        double end = endAndFree(works.get(work), k, free);
        return works.get(work).entry() <= t && t <= end && !free[t] ? 1 : 0;
    }

    private int heldOn(int work, int person, int t) {
        int sum = works.get(work).author() == person ? 16 : 0;
        for (MoveTold m : moves) {
            if (m.work() != work || m.day() > t) continue;
            if (m.from() == person) sum -= m.n();
            if (m.to() == person) sum += m.n();
        }
        return sum;
    }

    private int pledgedBy(int work, int person) {
        int sum = 0;
        for (Map.Entry<PledgeKey, Integer> e : pledges.entrySet()) {
            if (e.getKey().work() == work && e.getKey().person() == person) sum += e.getValue();
        }
        return sum;
    }

    int sell(int work, int from, int to, int n) {
        if (noWork(work) || noPerson(from) || noPerson(to) || from == to || out(n, 1, 16)) return BAD;
        if (heldOn(work, from, today) - pledgedBy(work, from) < n || deaths.containsKey(to)) return NOT;
        moves.add(new MoveTold(today, work, from, to, n));
        return 1;
    }

    int pledge(int work, int person, int to, int n) {
        if (noWork(work) || noPerson(person) || noPerson(to) || person == to || out(n, 1, 16)) return BAD;
        if (heldOn(work, person, today) - pledgedBy(work, person) < n) return NOT;
        pledges.merge(new PledgeKey(work, person, to), n, Integer::sum);
        return pledgedBy(work, person);
    }

    int redeem(int work, int person, int to) {
        if (noWork(work) || noPerson(person) || noPerson(to) || person == to) return BAD;
        Integer n = pledges.remove(new PledgeKey(work, person, to));
        return n == null ? NOT : n;
    }

    int held(int work, int person, int t) {
        if (noWork(work) || (person != NOBODY && noPerson(person))
                || out(t, works.get(work).entry(), today)) return BAD;
        return heldOn(work, person, t);
    }

    int agree(int work, int person, boolean on) {
        if (noWork(work) || noPerson(person)) return BAD;
        Boolean was = agreed.put(new AgreeKey(work, person), on);
        return was != null && was ? 1 : 0;
    }

    int license(int work, int use, int person, int from, int to) {
        if (noWork(work) || out(use, 0, 3) || noPerson(person)
                || out(from, 0, 3000) || out(to, from, 3000)) return BAD;
        int wanted = 16;
        for (ActTold a : acts) {
            if (a.day() <= today) wanted = a.consent();
        }
        int have = 0;
        for (int p = 0; p < persons; p++) {
            if (agreed.getOrDefault(new AgreeKey(work, p), false)) have += heldOn(work, p, today);
        }
        if (inRight(work, today, today) == 0 || have < wanted) return NOT;
        if (licences.size() == 40) return FULL;
        licences.add(new LicenceTold(today, work, use, person, from, to));
        return licences.size() - 1;
    }

    int may(int work, int use, int person, int t, int k) {
        if (noWork(work) || out(use, 0, 3) || noPerson(person)
                || out(t, works.get(work).entry(), today) || out(k, works.get(work).entry(), 3000)) return BAD;
        if (inRight(work, t, k) == 0) return 1;
        for (LicenceTold l : licences) {
            if (l.work() == work && l.use() == use && l.person() == person
                    && l.given() <= t && l.from() <= t && l.to() >= t) return 1;
        }
        return heldOn(work, person, t) >= 8 ? 1 : 0;
    }

    int line(int work, int x) {
        if (noWork(work) || out(x, 1, 999)) return BAD;
        List<Integer> lines = works.get(work).lines();
        if (lines.size() == 20) return FULL;
        lines.add(x);
        return lines.size();
    }

    int common(int x, boolean on) {
        if (out(x, 1, 999)) return BAD;
        boolean was = commons.contains(x);
        if (on && !was && commons.size() == 20) return FULL;
        if (on) commons.add(x);
        else commons.remove(x);
        return was ? 1 : 0;
    }

    /** A pick: its places in both works. Compared place by place, as the document tells. */
    private record Pick(List<Integer> inA, List<Integer> inB) {
        boolean isBetterThan(Pick other) {
            if (inA.size() != other.inA.size()) return inA.size() > other.inA.size();
            for (int i = 0; i < inA.size(); i++) {
                if (!inA.get(i).equals(other.inA.get(i))) return inA.get(i) < other.inA.get(i);
            }
            for (int i = 0; i < inB.size(); i++) {
                if (!inB.get(i).equals(other.inB.get(i))) return inB.get(i) < other.inB.get(i);
            }
            return false;
        }

        Pick behind(int i, int j) {
            List<Integer> a = new ArrayList<>(List.of(i));
            List<Integer> b = new ArrayList<>(List.of(j));
            a.addAll(inA);
            b.addAll(inB);
            return new Pick(a, b);
        }
    }

    private Pick bestPick(int a, int b) {
        List<Integer> first = works.get(a).lines();
        List<Integer> second = works.get(b).lines();
        return bestFrom(first, second, 0, 0, new Pick[21][21]);
    }

    /** Tries every pair as the first one of the pick. */
    private Pick bestFrom(List<Integer> a, List<Integer> b, int startA, int startB, Pick[][] known) {
        if (known[startA][startB] != null) return known[startA][startB];
        Pick best = new Pick(List.of(), List.of());
        for (int i = startA; i < a.size(); i++) {
            for (int j = startB; j < b.size(); j++) {
                if (!a.get(i).equals(b.get(j)) || commons.contains(a.get(i))) continue;
                Pick pick = bestFrom(a, b, i + 1, j + 1, known).behind(i, j);
                if (pick.isBetterThan(best)) best = pick;
            }
        }
        known[startA][startB] = best;
        return best;
    }

    int alike(int a, int b) {
        return noWork(a) || noWork(b) ? BAD : bestPick(a, b).inA().size();
    }

    int pair(int a, int b, int i, int way) {
        if (noWork(a) || noWork(b) || i < 0 || out(way, 0, 1)) return BAD;
        Pick pick = bestPick(a, b);
        if (i >= pick.inA().size()) return NONE;
        return way == 0 ? pick.inA().get(i) : pick.inB().get(i);
    }

    int copied(int a, int b, int p) {
        if (noWork(a) || noWork(b) || out(p, 1, 100)) return BAD;
        int length = bestPick(a, b).inA().size();
        long own = works.get(a).lines().stream().filter(x -> !commons.contains(x)).count();
        return length > 0 && 100 * length >= p * own ? 1 : 0;
    }

    int count(int what) {
        int[] counts = {today, persons, acts.size(), works.size(), licences.size(), commons.size()};
        return out(what, 0, 5) ? BAD : counts[what];
    }
}
