import java.util.stream.IntStream;

/** All that is asked, on lawns, texts and arguments by lot, against Model; texts spoilt by lot against Faults. */
public final class AgainstModelTest {
    private final Lots lots;
    private final LeavesBeforeWind x = new LeavesBeforeWind();
    private final Model model = new Model();
    private final Model.Law[] laws = new Model.Law[6];
    private final int[] kinds = new int[36];
    private int texts = 1;

    private AgainstModelTest(int start) {
        lots = new Lots(start);
    }

    public static void main(String[] args) {
        for (int start = 0; start < 100; start++) new AgainstModelTest(start).run();
        spoiltTexts();
        Due.end();
    }

    private void run() {
        tellLaws();
        tellDays();
        tellLawn();
        int[] spans = {lots.next(15), lots.next(15), 14};
        for (int n : spans) {
            daysGoneThrough(n);
            whereAndNight(n);
        }
        hurdle(lots.next(15), lots.next(100));
        setsOfDays();
        ways();
        looks(1 + lots.next(14));
        winds(lots.next(100000));
    }

    private Model.Law someLaw(Expression.Maker maker) {
        Expression falls = maker.or(0);
        if (lots.oneOf(2)) return firstLaw();
        return new Model.Law(falls, maker.or(0), maker.or(0));
    }

    private static Model.Law firstLaw() {
        Expression falls = reckoned("strong + frost * 40 + 2 - sort");
        return new Model.Law(falls, reckoned("strong * 10 - wet * 60"), reckoned("wet"));
    }

    /** The parts of the first law, reckoned here. */
    private static Expression reckoned(String text) {
        return new Expression() {
            @Override public String text() {
                return text;
            }

            @Override public int of(int[] names) {
                int strong = names[1], frost = names[2], wet = names[3], sort = names[4];
                if (text.equals("wet")) return wet;
                return text.startsWith("strong *") ? strong * 10 - wet * 60 : strong + frost * 40 + 2 - sort;
            }
        };
    }

    private void tellLaws() {
        laws[0] = firstLaw();
        Expression.Maker maker = new Expression.Maker(lots);
        for (int k = 0; k < 12 && texts < 6; k++) {
            Model.Law law = someLaw(maker);
            String text = "falls " + law.falls().text() + ";blows " + law.blows().text() + ";\nrots " + law.rots().text() + ";";
            if (text.length() > 160) continue;
            Due.is(text, Due.text(x, text), texts);
            laws[texts] = law;
            texts++;
        }
        int t = lots.next(texts);
        model.law = laws[t];
        x.force(t);
        for (int k = 0; k < 12; k++) asks();
    }

    private void asks() {
        int part = lots.next(3), left = lots.next(10000), strong = lots.next(10), frost = lots.next(2);
        int wet = lots.next(2), sort = lots.next(10), many = lots.next(10000);
        Due.is("asks", x.asks(part, left, 10 * strong + frost, 10 * wet + sort, many),
                model.law.says(part, left, strong, frost, wet, sort, many));
    }

    private void tellDays() {
        int[] below = {4, 10, 2, 2};
        for (int d = 0; d < 14; d++) {
            for (int what = 0; what < 4; what++) {
                if (what > 1 && !lots.oneOf(3)) continue;
                model.sky[d][what] = lots.next(below[what]);
                x.sky(d, what, model.sky[d][what]);
            }
        }
        model.raking = lots.oneOf(2) ? 0 : lots.next(16384) & lots.next(16384);
        x.rake(model.raking);
    }

    private void tellLawn() {
        for (int c = 0; c < 36; c++) {
            int more = lots.next(lots.oneOf(2) ? 10 : 100);
            kinds[c] = lots.oneOf(2) ? 0 : lots.next(6);
            model.cells[c] = Model.kind(kinds[c], more);
            x.lay(c, kinds[c], more);
            if (!lots.oneOf(3)) continue;
            model.leaves[c] = lots.oneOf(4) ? lots.next(1000) : lots.next(50);
            x.strew(c, model.leaves[c]);
        }
        for (int t = lots.next(5); t > 0; t--) {
            int[] tree = {lots.next(36), lots.next(10), lots.next(1000)};
            model.trees.add(tree);
            x.tree(tree[0], tree[1], tree[2]);
        }
        model.heaps = 0;
        for (int k = lots.next(6); k >= 0; k--) model.heaps |= 1L << lots.next(36);
        x.heap(model.heaps);
    }

    private static int firstOfMost(int[] row) {
        int most = IntStream.of(row).max().getAsInt();
        return IntStream.range(0, row.length).filter(i -> row[i] == most).findFirst().getAsInt();
    }

    private void daysGoneThrough(int n) {
        Model.Behind b = model.new Behind(n);
        for (int k = 0; k < 6; k++) {
            int c = lots.next(36);
            Due.is("dry", x.lie(n, c, 0), b.dry[c]);
            Due.is("wet", x.lie(n, c, 1), b.wet[c]);
            Due.is("covered", x.lie(n, c, 2), b.covered[c]);
        }
        for (int what = 0; what < 9; what++) Due.is("sum " + what, x.sum(n, what), b.sum(what));
        for (int t = 0; t < b.hang.length; t++) Due.is("hang", x.hang(n, t), b.hang[t]);
        Due.is("worst", x.worst(n, 0), firstOfMost(b.covered));
        Due.is("worst", x.worst(n, 1), b.covered[firstOfMost(b.covered)]);
        Due.is("corner", x.corner(n, 0), firstOfMost(b.all()));
        Due.is("corner", x.corner(n, 1), b.all(firstOfMost(b.all())));
        Due.is("raking", x.raking(n), b.cost(model.heaps));
        int all = IntStream.of(model.leaves).sum() + IntStream.of(b.fell).sum(), w = lots.next(4);
        long divisor = java.math.BigInteger.valueOf(all).gcd(java.math.BigInteger.valueOf(b.off[w])).longValue();
        Due.is("share", x.share(n, w, 0), all == 0 ? LeavesBeforeWind.NO : b.off[w] / divisor);
        Due.is("share", x.share(n, w, 1), all == 0 ? LeavesBeforeWind.NO : all / divisor);
    }

    private void whereAndNight(int n) {
        Model.Behind b = model.new Behind(n);
        int[] one = IntStream.range(0, 36).map(c -> b.cost(1L << c)).toArray();
        int least = IntStream.of(one).min().getAsInt();
        Due.is("where", x.where(n, 1), least);
        Due.is("where", one[x.where(n, 0)], least);
        int first = x.where(n, 0);
        Due.is("where first", IntStream.range(0, first).filter(c -> one[c] == least).count(), 0);
        int c = lots.next(36), other = lots.next(36), two = x.where(n, 2);
        if (c != other) Due.is("no two cost less", x.where(n, 3) > b.cost(1L << c | 1L << other) ? 1 : 0, 0);
        Due.is("where two", x.where(n, 3), b.cost(1L << two / 100 | 1L << two % 100));
        Due.is("the lesser, and the other", two / 100 < two % 100 && two % 100 < 36 ? 1 : 0, 1);
        int[] was = b.all();
        int way = lots.next(4), strong = lots.next(10), off = b.off[way];
        b.blow(way, strong, 0);
        int[] is = b.all();
        Due.is("tonight", x.tonight(n, 10 * way + strong, 0), IntStream.range(0, 36).filter(i -> was[i] == 0).map(i -> is[i]).sum());
        Due.is("tonight", x.tonight(n, 10 * way + strong, 1), b.off[way] - off);
        Due.is("tonight", x.tonight(n, 10 * way + strong, 2), IntStream.range(0, 36).map(i -> Math.min(was[i], is[i])).sum());
    }

    private void hurdle(int n, int more) {
        int[] lie = new int[36];
        for (int c = 0; c < 36; c++) {
            Model m = model.copy();
            m.cells[c] = new Model.Corner(more);
            lie[c] = m.new Behind(n).all(c);
        }
        Due.is("hurdle", x.hurdle(n, more, 0), firstOfMost(lie));
        Due.is("hurdle", x.hurdle(n, more, 1), lie[firstOfMost(lie)]);
    }

    private void setsOfDays() {
        int most = lots.next(15), best = -1, price = -1;
        for (int set = 0; set < 16384; set++) {
            if ((set & ~(8 | 64 | 1024 | 8192)) != 0) continue;
            Model m = model.copy();
            m.raking = set;
            Model.Behind b = m.new Behind(14);
            if (IntStream.of(b.covered).max().getAsInt() > most || best >= 0 && b.cost >= price) continue;
            best = set;
            price = b.cost;
        }
        Due.is("least", x.least(most, 0), best);
        Due.is("least", x.least(most, 1), price);
        Model often = model.raked(4, 9, 13), once = model.raked(13);
        Due.is("thrice", x.thrice(), often.new Behind(14).cost - once.new Behind(14).cost);
        int[] fell = model.new Behind(14).fell;
        int day = firstOfMost(fell);
        Due.is("great", x.great(0), fell[day] == 0 ? -1 : day);
        Due.is("great", x.great(1), fell[day]);
    }

    private void ways() {
        int[] off = new int[4];
        for (int w = 0; w < 4; w++) {
            Model m = model.copy();
            for (int d = 0; d < 14; d++) m.sky[d][0] = w;
            off[w] = m.new Behind(14).off[w];
        }
        Due.is("away", x.away(0), firstOfMost(off));
        Due.is("away", x.away(1), off[firstOfMost(off)]);
    }

    private void looks(int n) {
        Due.is("film", x.film(0, n), 36);
        int[] lie = model.new Behind(n).all();
        int fitting = 0, winds = 0;
        for (int t = 0; t < texts; t++) {
            Model m = model.copy();
            m.law = laws[t];
            if (java.util.Arrays.equals(m.new Behind(n).all(), lie)) fitting |= 1 << t;
        }
        for (int w = 0; w < 4; w++) {
            Model m = model.copy();
            m.sky[n - 1][0] = w;
            if (java.util.Arrays.equals(m.new Behind(n).all(), lie)) winds |= 1 << w;
        }
        Due.is("laws", x.laws(0, n), fitting);
        Due.is("winds", x.winds(0, n), winds);
        Due.is("judge", x.judge(0, n), -1);
        int c = lots.next(36);
        x.cell(0, c, lie[c] + 1);
        Due.is("judge", x.judge(0, n), c);
    }

    private void winds(int seed) {
        int n = lots.next(15), what = lots.next(9), fitting = 0;
        Model m = model.drawn(seed);
        Due.is("drawn", x.drawn(seed, n, what), m.new Behind(n).sum(what));
        int most = Math.min(9999, m.new Behind(14).sum(0));
        for (int k = 0; k < 7; k++) {
            Model later = model.drawn(seed + k);
            if (later.new Behind(14).sum(0) <= most) fitting++;
        }
        int divisor = fitting % 7 == 0 ? 7 : 1;
        Due.is("odds", x.odds(seed, 7, most, 0), fitting / divisor);
        Due.is("odds", x.odds(seed, 7, most, 1), 7 / divisor);
    }

    private static void spoiltTexts() {
        Lots lots = new Lots(77);
        Expression.Maker maker = new Expression.Maker(lots);
        String[] pieces = {"(", ")", ";", "-", "not ", "<", "=", "*", "+", " ", "and ", "or ", "left ", "7", "12345", "x", "#", "falls "};
        for (int k = 0; k < 6000; k++) {
            String text = "falls " + maker.or(0).text() + ";blows " + maker.or(0).text() + ";rots " + maker.or(0).text() + ";";
            for (int spoilt = lots.next(3); spoilt > 0; spoilt--) {
                int from = lots.next(text.length()), to = Math.min(text.length(), from + lots.next(3));
                text = text.substring(0, from) + pieces[lots.next(pieces.length)] + text.substring(to);
            }
            if (text.length() > 160) continue;
            int place = Faults.place(text);
            Due.is("fault of " + text, Due.text(new LeavesBeforeWind(), text), place < 0 ? 1 : -100 - place);
        }
    }
}
