import java.util.ArrayList;
import java.util.HashMap;
import java.util.HashSet;
import java.util.List;
import java.util.Map;
import java.util.Set;

/**
 * The document told again as plainly as the Java library allows, with no regard to speed or room,
 * so that random runs can be held against it.
 */
final class Model {
    static final int NONE = -1;
    static final int GAP = -1000000;

    record Step(String makes, String verb, int much, int lng, List<String> needs) {
        Object field(int f) {
            switch (f) {
                case 1: return verb;
                case 2: return much;
                case 3: return lng;
                default: return new HashSet<>(needs);
            }
        }
    }

    /** A STEP on its way: madeIn tells where its NEEDS come from. */
    static final class Loose {
        String makes;
        Map<Integer, Object> fields = new HashMap<>();
        List<String> needs;
        Set<String> wereMade;

        static Loose of(List<Step> paper, Step s) {
            Loose l = new Loose();
            l.makes = s.makes;
            for (int f = 1; f <= 4; f++) {
                l.take(f, paper, s);
            }
            return l;
        }

        void take(int f, List<Step> paper, Step s) {
            if (f < 4) {
                fields.put(f, s.field(f));
                return;
            }
            needs = s.needs;
            wereMade = new HashSet<>();
            for (String need : s.needs) {
                if (maker(paper, s, need) != null) {
                    wereMade.add(need);
                }
            }
        }
    }

    record Change(int kind, int step, String name) { }

    record Quarrel(int step, int field) { }

    static final class Join {
        List<Step> base;
        List<Step> one;
        List<Step> other;
        List<String> names = new ArrayList<>();
        List<Quarrel> quarrels = new ArrayList<>();
    }

    static Step find(List<Step> paper, String name) {
        for (Step s : paper) {
            if (s.makes.equals(name)) {
                return s;
            }
        }
        return null;
    }

    static Step maker(List<Step> paper, Step s, String need) {
        Step m = find(paper, need);
        return m != null && paper.indexOf(m) < paper.indexOf(s) ? m : null;
    }

    static List<Step> ends(List<Step> paper) {
        List<Step> ends = new ArrayList<>(paper);
        for (Step s : paper) {
            for (String need : s.needs) {
                ends.remove(maker(paper, s, need));
            }
        }
        return ends;
    }

    static int reach(List<Step> paper, Step s) {
        int most = 0;
        for (String need : s.needs) {
            Step m = maker(paper, s, need);
            if (m != null) {
                most = Math.max(most, reach(paper, m));
            }
        }
        return most + s.lng;
    }

    static int path(List<Step> paper) {
        return paper.stream().mapToInt(s -> reach(paper, s)).max().orElse(0);
    }

    static boolean alike(List<Step> p, Step s, List<Step> q, Step t) {
        if (!s.verb.equals(t.verb) || s.much != t.much || s.lng != t.lng || s.needs.size() != t.needs.size()) {
            return false;
        }
        return needsFit(p, s, s.needs, q, t, t.needs);
    }

    private static boolean needsFit(List<Step> p, Step s, List<String> mine, List<Step> q, Step t, List<String> yours) {
        if (mine.isEmpty()) {
            return true;
        }
        Step m = maker(p, s, mine.get(0));
        for (String y : yours) {
            Step n = maker(q, t, y);
            boolean fits = m == null && n == null ? mine.get(0).equals(y) : m != null && n != null && alike(p, m, q, n);
            List<String> rest = new ArrayList<>(yours);
            rest.remove(y);
            if (fits && needsFit(p, s, mine.subList(1, mine.size()), q, t, rest)) {
                return true;
            }
        }
        return false;
    }

    static boolean same(List<Step> p, List<Step> q) {
        List<Step> rest = ends(q);
        for (Step s : ends(p)) {
            Step mate = null;
            for (Step t : rest) {
                if (alike(p, s, q, t)) {
                    mate = t;
                    break;
                }
            }
            if (mate == null) {
                return false;
            }
            rest.remove(mate);
        }
        return rest.isEmpty();
    }

    static List<Change> changes(List<Step> a, List<Step> b) {
        List<Change> list = new ArrayList<>();
        for (Step s : a) {
            Step t = find(b, s.makes);
            if (t == null) {
                list.add(new Change(0, a.indexOf(s), s.makes));
            } else {
                for (int f = 1; f <= 4; f++) {
                    if (!s.field(f).equals(t.field(f))) {
                        list.add(new Change(f, a.indexOf(s), s.makes));
                    }
                }
            }
        }
        for (Step t : b) {
            if (find(a, t.makes) == null) {
                list.add(new Change(5, b.indexOf(t), t.makes));
            }
        }
        return list;
    }

    static boolean slip(List<Step> a, List<Step> b, Change c) {
        if (c.kind < 1 || c.kind > 3) {
            return false;
        }
        String x = find(a, c.name).field(c.kind).toString();
        String y = find(b, c.name).field(c.kind).toString();
        return oneSlip(x, y) || oneSlip(y, x);
    }

    /** All that can become of x by leaving out, altering or changing about. */
    private static boolean oneSlip(String x, String y) {
        for (int i = 0; i < x.length(); i++) {
            String ahead = x.substring(0, i);
            String behind = x.substring(i + 1);
            if (y.equals(ahead + behind)) {
                return true;
            }
            for (char c = '0'; c <= 'z'; c++) {
                if (y.equals(ahead + c + behind)) {
                    return true;
                }
            }
            if (!behind.isEmpty() && y.equals(ahead + behind.charAt(0) + x.charAt(i) + behind.substring(1))) {
                return true;
            }
        }
        return false;
    }

    static int least(List<Step> a, List<Step> b) {
        if (a.isEmpty()) {
            return 3 * b.size();
        }
        Step s = a.get(0);
        List<Step> restA = a.subList(1, a.size());
        int best = 3 + least(restA, b);
        for (Step t : b) {
            List<Step> restB = new ArrayList<>(b);
            restB.remove(t);
            int w = (s.makes.equals(t.makes) ? 0 : 1) + (s.verb.equals(t.verb) ? 0 : 2)
                    + (s.much == t.much ? 0 : 1) + (s.lng == t.lng ? 0 : 1);
            for (String n : s.needs) {
                w += t.needs.contains(n) ? 0 : 1;
            }
            for (String n : t.needs) {
                w += s.needs.contains(n) ? 0 : 1;
            }
            best = Math.min(best, w + least(restA, restB));
        }
        return best;
    }

    static List<Loose> loosen(List<Step> paper) {
        List<Loose> list = new ArrayList<>();
        for (Step s : paper) {
            list.add(Loose.of(paper, s));
        }
        return list;
    }

    static Loose looseOf(List<Loose> list, String name) {
        for (Loose l : list) {
            if (l.makes.equals(name)) {
                return l;
            }
        }
        return null;
    }

    /** CHANGES to the PAPER to, done in the told order of kinds. */
    static void doAll(List<Loose> list, List<Change> done, List<Step> to) {
        for (Change c : done) {
            Loose l = looseOf(list, c.name);
            if (c.kind >= 1 && c.kind <= 4 && l != null) {
                l.take(c.kind, to, find(to, c.name));
            }
        }
        for (Change c : done) {
            if (c.kind == 0) {
                list.removeIf(l -> l.makes.equals(c.name));
            }
        }
        for (Change c : done) {
            if (c.kind == 5 && looseOf(list, c.name) == null) {
                list.add(Loose.of(to, find(to, c.name)));
            }
        }
    }

    static Loose lost(List<Loose> list) {
        for (Loose l : list) {
            for (String need : l.needs) {
                if (l.wereMade.contains(need) && looseOf(list, need) == null) {
                    return l;
                }
            }
        }
        return null;
    }

    /** Null: a BREACH. */
    static List<Step> settled(List<Loose> list) {
        if (list.size() > 12 || lost(list) != null) {
            return null;
        }
        List<Loose> rest = new ArrayList<>(list);
        List<Step> paper = new ArrayList<>();
        while (!rest.isEmpty()) {
            Loose next = null;
            for (Loose l : rest) {
                boolean ready = true;
                for (String need : l.needs) {
                    ready = ready && looseOf(rest, need) == null;
                }
                if (ready) {
                    next = l;
                    break;
                }
            }
            if (next == null) {
                return null;
            }
            rest.remove(next);
            paper.add(new Step(next.makes, (String) next.fields.get(1), (Integer) next.fields.get(2),
                    (Integer) next.fields.get(3), next.needs));
        }
        return paper;
    }

    static int does(List<Step> a, List<Step> b, int set) {
        List<Change> all = changes(a, b);
        List<Change> done = new ArrayList<>();
        for (int i = 0; i < 32; i++) {
            if ((set >>> i & 1) == 1) {
                if (i >= 20 || i >= all.size()) {
                    return GAP;
                }
                done.add(all.get(i));
            }
        }
        List<Loose> list = loosen(a);
        doAll(list, done, b);
        List<Step> paper = settled(list);
        return paper == null ? NONE : paper.size();
    }

    static Join join(List<Step> base, List<Step> one, List<Step> other) {
        Join j = new Join();
        j.base = base;
        j.one = one;
        j.other = other;
        for (List<Step> paper : List.of(base, one, other)) {
            for (Step s : paper) {
                if (!j.names.contains(s.makes)) {
                    j.names.add(s.makes);
                }
            }
        }
        for (int n = 0; n < j.names.size(); n++) {
            Step b = find(base, j.names.get(n));
            Step x = find(one, j.names.get(n));
            Step y = find(other, j.names.get(n));
            if (b != null && (x == null) != (y == null) && altered(b, x == null ? y : x)) {
                j.quarrels.add(new Quarrel(n, 0));
            }
            for (int f = 1; x != null && y != null && f <= 4; f++) {
                boolean fight = !x.field(f).equals(y.field(f));
                if (b != null) {
                    fight = fight && !x.field(f).equals(b.field(f)) && !y.field(f).equals(b.field(f));
                }
                if (fight) {
                    j.quarrels.add(new Quarrel(n, f));
                }
            }
        }
        return j;
    }

    static boolean altered(Step a, Step b) {
        for (int f = 1; f <= 4; f++) {
            if (!a.field(f).equals(b.field(f))) {
                return true;
            }
        }
        return false;
    }

    /** Null: a BREACH. */
    static List<Step> joined(Join j, int[] sides) {
        List<Loose> list = new ArrayList<>();
        for (int n = 0; n < j.names.size(); n++) {
            String name = j.names.get(n);
            List<List<Step>> papers = List.of(j.one, j.other, j.base);
            Step b = find(j.base, name);
            Step x = find(j.one, name);
            Step y = find(j.other, name);
            int there = j.quarrels.indexOf(new Quarrel(n, 0));
            if (there >= 0) {
                List<Step> from = papers.get(sides[there]);
                if (find(from, name) != null) {
                    list.add(Loose.of(from, find(from, name)));
                }
            } else if (b == null && (x == null || y == null)) {
                List<Step> from = x == null ? j.other : j.one;
                list.add(Loose.of(from, find(from, name)));
            } else if (x != null && y != null) {
                Loose l = Loose.of(b == null ? j.one : j.base, b == null ? x : b);
                for (int f = 1; f <= 4; f++) {
                    int q = j.quarrels.indexOf(new Quarrel(n, f));
                    List<Step> from = b == null ? j.one : j.base;
                    if (q >= 0) {
                        from = papers.get(sides[q]);
                        from = find(from, name) == null ? j.one : from;
                    } else if (b != null && !x.field(f).equals(b.field(f))) {
                        from = j.one;
                    } else if (b != null && !y.field(f).equals(b.field(f))) {
                        from = j.other;
                    }
                    l.take(f, from, find(from, name));
                }
                list.add(l);
            }
        }
        return settled(list);
    }

    static boolean words(Join j, int i) {
        int[] sides = new int[j.quarrels.size()];
        List<Step> p = joined(j, sides);
        sides[i] = 1;
        List<Step> q = joined(j, sides);
        return p != null && q != null && same(p, q);
    }

    static int left(Join j, int what) {
        int n = 0;
        for (String name : j.names) {
            Step b = find(j.base, name);
            Step x = find(j.one, name);
            Step y = find(j.other, name);
            boolean counts = what == 0 ? b != null && x == null && y == null
                    : what == 1 ? b != null && x != null && y != null && !altered(b, x) && !altered(b, y)
                    : b == null && x != null && y != null;
            n += counts ? 1 : 0;
        }
        return n;
    }

    static int ruin(List<Step> base, List<Step> one, List<Step> other, int what) {
        int pairs = 0;
        int first = NONE;
        List<Change> mine = changes(base, one);
        List<Change> yours = changes(base, other);
        for (int i = 0; i < mine.size(); i++) {
            for (int k = 0; k < yours.size(); k++) {
                List<Loose> p = loosen(base);
                doAll(p, List.of(mine.get(i)), one);
                List<Loose> q = loosen(base);
                doAll(q, List.of(yours.get(k)), other);
                List<Loose> r = loosen(base);
                doAll(r, List.of(mine.get(i)), one);
                doAll(r, List.of(yours.get(k)), other);
                if (settled(p) != null && settled(q) != null && settled(r) == null) {
                    pairs++;
                    first = first == NONE ? 100 * i + k : first;
                }
            }
        }
        return what == 0 ? pairs : first;
    }

    private static List<Step> clean(List<Step> base, List<Step> one, List<Step> other) {
        if (one == null || other == null) {
            return null;
        }
        Join j = join(base, one, other);
        return j.quarrels.isEmpty() ? joined(j, new int[0]) : null;
    }

    static int law(int law, List<Step> base, List<Step> one, List<Step> other, List<Step> third) {
        List<Step> p = law == 0 ? clean(base, one, one) : clean(base, one, other);
        List<Step> q = law == 0 ? one : law == 1 ? clean(base, other, one) : clean(base, clean(base, other, third), one);
        p = law == 2 ? clean(base, p, third) : p;
        if (p == null || q == null) {
            return p == q ? 1 : 0;
        }
        return same(p, q) ? 1 : 0;
    }

    static int three(List<Step> base, List<Step> x, List<Step> y, List<Step> z, int way) {
        List<Step> one = way == 2 ? y : x;
        List<Step> other = way == 0 ? y : z;
        List<Step> last = way == 0 ? z : way == 1 ? y : x;
        Join j = join(base, one, other);
        List<Step> p = joined(j, new int[j.quarrels.size()]);
        return p == null ? GAP : j.quarrels.size() + join(base, p, last).quarrels.size();
    }

    static int leans(List<Step> base, List<Step> paper, int i) {
        List<Change> done = changes(base, paper);
        done.remove(i);
        int went = 0;
        while (true) {
            List<Loose> list = loosen(base);
            doAll(list, done, paper);
            Loose lost = settled(list) == null ? lost(list) : null;
            Change goes = null;
            for (Change c : done) {
                if (goes == null && lost != null && c.kind >= 4 && c.name.equals(lost.makes)) {
                    goes = c;
                }
            }
            if (goes == null) {
                return went;
            }
            done.remove(goes);
            went++;
        }
    }

    static int begun(List<Step> old, int n, List<Step> paper, int what) {
        int todo = 0;
        for (Step t : paper) {
            boolean like = false;
            for (Step s : old.subList(0, n)) {
                like = like || alike(old, s, paper, t);
            }
            todo += like ? 0 : 1;
        }
        int wasted = 0;
        for (Step s : old.subList(0, n)) {
            boolean like = false;
            for (Step t : paper) {
                like = like || alike(old, s, paper, t);
            }
            wasted += like ? 0 : 1;
        }
        return what == 0 ? todo : wasted;
    }
}
