import java.util.ArrayList;
import java.util.List;
import java.util.Random;

/** Random PAPERS, related by random changes, asked of the program and of the plain model. */
public final class RandomModelTest {
    private static final Kit KIT = new Kit();
    private static final String[] NAMES = {"a", "b", "c", "d", "e", "f", "g", "h", "i", "j", "k", "l", "m", "n", "o", "p"};
    private static final String[] RAW = {"egg", "flour", "sugar"};
    private static final String[] VERBS = {"beat", "beats", "bake", "stir"};

    public static void main(String[] args) {
        for (int seed = 0; seed < 3000; seed++) {
            run(seed);
        }
        KIT.finish("RandomModelTest");
    }

    private static void run(int seed) {
        Random r = new Random(seed);
        int size = seed % 10 == 0 ? 12 : 1 + r.nextInt(6);
        int names = Math.min(NAMES.length, size + r.nextInt(4));
        List<List<Model.Step>> papers = new ArrayList<>();
        List<Model.Step> base = new ArrayList<>();
        for (int i = 0; i < size; i++) {
            put(r, base, names);
        }
        papers.add(base);
        int edits = 1 + r.nextInt(seed % 3 == 0 ? 8 : 3);
        for (int k = 0; k < 3; k++) {
            List<Model.Step> p = new ArrayList<>(base);
            for (int n = 0; n < edits; n++) {
                edit(r, p, names);
            }
            papers.add(p);
        }
        CakePapers x = new CakePapers();
        for (int i = 0; i < papers.size(); i++) {
            KIT.due("seed " + seed + " paper", Kit.paper(x, text(r, papers.get(i))), i);
        }
        String want = wants(r);
        Kit.want(x, "want " + want + ";");
        askAlone(seed, x, papers);
        askPairs(seed, r, x, papers);
        askJoins(seed, r, x, papers, want);
    }

    private static void put(Random r, List<Model.Step> p, int names) {
        String name = NAMES[r.nextInt(names)];
        if (Model.find(p, name) == null && p.size() < 12) {
            p.add(r.nextInt(4) == 0 ? r.nextInt(p.size() + 1) : p.size(), fresh(r, p, name, names));
        }
    }

    private static Model.Step fresh(Random r, List<Model.Step> p, String name, int names) {
        return new Model.Step(name, VERBS[r.nextInt(4)], r.nextInt(3) * (r.nextBoolean() ? 1 : 10), r.nextInt(3),
                needs(r, p, name, names));
    }

    private static List<String> needs(Random r, List<Model.Step> p, String name, int names) {
        List<String> needs = new ArrayList<>();
        int n = 1 + r.nextInt(4);
        for (int i = 0; i < n; i++) {
            String need = RAW[r.nextInt(RAW.length)];
            if (!p.isEmpty() && r.nextBoolean()) {
                need = p.get(r.nextInt(p.size())).makes();
            } else if (r.nextInt(10) == 0) {
                need = NAMES[r.nextInt(names)];
            }
            if (!needs.contains(need) && !need.equals(name)) {
                needs.add(need);
            }
        }
        if (needs.isEmpty()) {
            needs.add("egg");
        }
        return needs;
    }

    private static void edit(Random r, List<Model.Step> p, int names) {
        if (p.isEmpty() || r.nextInt(4) == 0) {
            put(r, p, names);
            return;
        }
        int i = r.nextInt(p.size());
        Model.Step s = p.get(i);
        switch (r.nextInt(6)) {
            case 0: p.remove(i); break;
            case 1: p.set(i, new Model.Step(s.makes(), VERBS[r.nextInt(4)], s.much(), s.lng(), s.needs())); break;
            case 2: p.set(i, new Model.Step(s.makes(), s.verb(), r.nextInt(1000), s.lng(), s.needs())); break;
            case 3: p.set(i, new Model.Step(s.makes(), s.verb(), s.much(), r.nextInt(30), s.needs())); break;
            case 4: p.set(i, new Model.Step(s.makes(), s.verb(), s.much(), s.lng(), needs(r, p, s.makes(), names))); break;
            default: p.remove(i); p.add(r.nextInt(p.size() + 1), s); break;
        }
    }

    private static String text(Random r, List<Model.Step> p) {
        StringBuilder text = new StringBuilder();
        boolean called = r.nextInt(3) == 0;
        if (called) {
            text.append("call ei egg;call dough a ; \n");
        }
        for (Model.Step s : p) {
            text.append("make ").append(called && s.makes().equals("a") ? "dough" : s.makes());
            text.append(" by ").append(s.verb()).append(" of");
            for (String need : s.needs()) {
                text.append(' ').append(called && need.equals("egg") ? "ei" : need);
            }
            text.append(" much ").append(s.much()).append(r.nextBoolean() ? " " : "\n").append("long ").append(s.lng()).append(";");
        }
        return text.toString();
    }

    private static String wants(Random r) {
        String[] wants = {"steps", "much - 3 * long", "path * path + ends", "has c and path > 3", "0 - steps * 7 + much",
            "(has a or not has b) * 10 - long", "ends = 1"};
        return wants[r.nextInt(wants.length)];
    }

    private static int value(String want, List<Model.Step> p) {
        int much = p.stream().mapToInt(Model.Step::much).sum();
        int lng = p.stream().mapToInt(Model.Step::lng).sum();
        int path = Model.path(p);
        int ends = Model.ends(p).size();
        switch (want) {
            case "steps": return p.size();
            case "much - 3 * long": return much - 3 * lng;
            case "path * path + ends": return path * path + ends;
            case "has c and path > 3": return Model.find(p, "c") != null && path > 3 ? 1 : 0;
            case "0 - steps * 7 + much": return much - 7 * p.size();
            case "ends = 1": return ends == 1 ? 1 : 0;
            default: return (Model.find(p, "a") != null || Model.find(p, "b") == null ? 10 : 0) - lng;
        }
    }

    private static void askAlone(int seed, CakePapers x, List<List<Model.Step>> papers) {
        for (int i = 0; i < papers.size(); i++) {
            List<Model.Step> p = papers.get(i);
            String who = "seed " + seed + " paper " + i + " ";
            KIT.due(who + "steps", x.makes(i, 0), p.size());
            KIT.due(who + "ends", x.makes(i, 1), Model.ends(p).size());
            KIT.due(who + "path", x.makes(i, 2), Model.path(p));
            KIT.due(who + "much", x.makes(i, 3), p.stream().mapToInt(Model.Step::much).sum());
            KIT.due(who + "long", x.makes(i, 4), p.stream().mapToInt(Model.Step::lng).sum());
            for (int s = 0; s < p.size(); s++) {
                Model.Step step = p.get(s);
                KIT.due(who + "step needs", x.step(i, s, 2), step.needs().size());
                KIT.due(who + "step made", x.step(i, s, 3),
                        step.needs().stream().filter(n -> Model.maker(p, step, n) != null).count());
                KIT.due(who + "step end", x.step(i, s, 4), Model.ends(p).contains(step) ? 1 : 0);
            }
        }
    }

    private static void askPairs(int seed, Random r, CakePapers x, List<List<Model.Step>> papers) {
        for (int i = 0; i < 4; i++) {
            for (int j = 0; j < 4; j++) {
                List<Model.Step> p = papers.get(i);
                List<Model.Step> q = papers.get(j);
                String who = "seed " + seed + " papers " + i + " " + j + " ";
                KIT.due(who + "same", x.same(i, j), Model.same(p, q) ? 1 : 0);
                for (int s = 0; s < p.size(); s++) {
                    int like = -1;
                    for (int t = q.size() - 1; t >= 0; t--) {
                        like = Model.alike(p, p.get(s), q, q.get(t)) ? t : like;
                    }
                    KIT.due(who + "alike " + s, x.alike(i, s, j), like);
                }
                List<Model.Change> changes = Model.changes(p, q);
                KIT.due(who + "changes", x.changes(i, j), changes.size());
                for (int c = 0; c < changes.size(); c++) {
                    KIT.due(who + "change " + c, x.change(i, j, c, 0), changes.get(c).kind());
                    KIT.due(who + "change step " + c, x.change(i, j, c, 1), changes.get(c).step());
                    KIT.due(who + "change slip " + c, x.change(i, j, c, 2), Model.slip(p, q, changes.get(c)) ? 1 : 0);
                    KIT.due(who + "leans " + c, x.leans(i, j, c), Model.leans(p, q, c));
                }
                if (p.size() <= 5 && q.size() <= 5) {
                    KIT.due(who + "least", x.least(i, j), Model.least(p, q));
                }
                for (int k = 0; k < 4; k++) {
                    int set = k == 0 ? (1 << Math.min(20, changes.size())) - 1 : r.nextInt(1 << Math.min(24, changes.size() + k / 3));
                    KIT.due(who + "does " + set, x.does(i, j, set), Model.does(p, q, set));
                }
                int n = r.nextInt(p.size() + 1);
                KIT.due(who + "begun " + n, x.begun(i, n, j, 0), Model.begun(p, n, q, 0));
                KIT.due(who + "wasted " + n, x.begun(i, n, j, 1), Model.begun(p, n, q, 1));
            }
        }
    }

    private static void askJoins(int seed, Random r, CakePapers x, List<List<Model.Step>> papers, String want) {
        for (int k = 0; k < 5; k++) {
            int b = k == 0 ? 0 : r.nextInt(4);
            int o = k == 0 ? 1 : r.nextInt(4);
            int t = k == 0 ? 2 : r.nextInt(4);
            int u = k == 0 ? 3 : r.nextInt(4);
            List<Model.Step> base = papers.get(b);
            List<Model.Step> one = papers.get(o);
            List<Model.Step> other = papers.get(t);
            List<Model.Step> third = papers.get(u);
            String who = "seed " + seed + " of " + b + " " + o + " " + t + " " + u + " ";
            KIT.due(who + "join", x.join(b, o, t), Model.join(base, one, other).quarrels.size());
            askJoin(who, r, x, Model.join(base, one, other), papers, want);
            KIT.due(who + "ruin", x.ruin(b, o, t, 0), Model.ruin(base, one, other, 0));
            KIT.due(who + "first ruin", x.ruin(b, o, t, 1), Model.ruin(base, one, other, 1));
            for (int n = 0; n < 3; n++) {
                KIT.due(who + "law " + n, x.law(n, b, o, t, u), Model.law(n, base, one, other, third));
                KIT.due(who + "three " + n, x.three(b, o, t, u, n), Model.three(base, one, other, third, n));
            }
        }
    }

    private static void askJoin(String who, Random r, CakePapers x, Model.Join j, List<List<Model.Step>> papers,
            String want) {
        int quarrels = j.quarrels.size();
        for (int n = 0; n < 3; n++) {
            KIT.due(who + "left " + n, x.left(n), Model.left(j, n));
        }
        int[] sides = new int[quarrels];
        for (int i = 0; i < quarrels; i++) {
            KIT.due(who + "quarrel step " + i, x.quarrel(i, 0), j.quarrels.get(i).step());
            KIT.due(who + "quarrel field " + i, x.quarrel(i, 1), j.quarrels.get(i).field());
            KIT.due(who + "quarrel words " + i, x.quarrel(i, 3), Model.words(j, i) ? 1 : 0);
            sides[i] = r.nextInt(3);
        }
        askBest(who, x, j, want);
        for (int i = 0; i < quarrels; i++) {
            x.settle(i, sides[i]);
        }
        List<Model.Step> due = Model.joined(j, sides);
        int got = x.joined();
        KIT.due(who + "joined", got, due == null ? -3 : 4);
        if (got == 4 && due != null) {
            for (int s = 0; s < due.size(); s++) {
                KIT.due(who + "joined much " + s, x.step(4, s, 0), due.get(s).much());
                KIT.due(who + "joined long " + s, x.step(4, s, 1), due.get(s).lng());
                KIT.due(who + "joined needs " + s, x.step(4, s, 2), due.get(s).needs().size());
            }
            KIT.due(who + "joined steps", x.makes(4, 0), due.size());
            KIT.due(who + "joined path", x.makes(4, 2), Model.path(due));
            KIT.due(who + "joined want", x.makes(4, 5), value(want, due));
            for (int i = 0; i < 4; i++) {
                KIT.due(who + "same as joined " + i, x.same(i, 4), Model.same(papers.get(i), due) ? 1 : 0);
            }
            x.tear(4);
        }
    }

    private static void askBest(String who, CakePapers x, Model.Join j, String want) {
        int quarrels = j.quarrels.size();
        if (quarrels > 6) {
            KIT.due(who + "best", x.best(-1), -2);
            return;
        }
        if (quarrels > 4) {
            return;
        }
        int[] best = null;
        int most = Model.GAP;
        int[] sides = new int[quarrels];
        boolean more = true;
        while (more) {
            List<Model.Step> p = Model.joined(j, sides);
            if (p != null && (best == null || value(want, p) > most)) {
                best = sides.clone();
                most = value(want, p);
            }
            int at = quarrels - 1;
            while (at >= 0 && sides[at] == 2) {
                sides[at] = 0;
                at--;
            }
            more = at >= 0;
            if (more) {
                sides[at]++;
            }
        }
        KIT.due(who + "best", x.best(-1), most);
        for (int i = 0; i < quarrels; i++) {
            KIT.due(who + "best side " + i, x.best(i), best == null ? Model.GAP : best[i]);
        }
        KIT.due(who + "best beyond", x.best(quarrels), Model.GAP);
    }
}
