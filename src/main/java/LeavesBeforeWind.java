import java.util.Arrays;

/**
 * Leaves before the wind: a lawn of cells, trees that drop their leaves by day, and what fourteen days of
 * wind, frost and rain make of them. ../shared/DOC.md says, promise by promise, what each call answers.
 *
 * All rows are made once, in the constructor: what calls make is counted, so no call makes anything.
 */
public final class LeavesBeforeWind {
    public static final int NONE = -1, BAD = -2, STATE = -3, FULL = -4;
    public static final long NO = -4611686018427387904L;

    private static final int NO_SUCH = -5, NOT_SO = -7;
    private static final int MISSING = -11, OUTSIDE = -12, UNLIKE = -13, BELOW_ZERO = -14;

    private static final int SIDE = 6, CELLS = 36, DAYS = 14, WAYS = 4, TREES = 4, SHEETS = 4;
    private static final int TEXTS = 6, TAPE = 160, DEEPEST = 5, MOST_DIGITS = 4;
    private static final int MOST_LEAVES = 999, MOST_MORE = 99, MOST_SORT = 9, MOST_STRONG = 9;
    private static final int MOST_TOLD = 9999, MOST_SEED = 99999, MOST_SEEDS = 10, ROW = 40;

    private static final int WAY = 0, STRONG = 1, FROST = 2, RAIN = 3, SKIES = 4;
    private static final int GRASS = 0, BED = 1, WALL = 2, CORNER = 3, PATH = 4, HEDGE = 5, A_TREE = 6;
    private static final int DRY = 0, WET = 1, STATES = 2;
    private static final int NO_ROW = -1, BYTES = 0, SHORTS = 1, INTS = 2;
    private static final int RAKED_OFTEN = 1 << 4 | 1 << 9 | 1 << 13, RAKED_ONCE = 1 << 13;

    private static final int FALLS = 0, BLOWS = 1, ROTS = 2, PARTS = 3;
    private static final int LEFT = 0, STRONG_WIND = 1, FROSTY = 2, IS_WET = 3, SORT = 4, MANY = 5, NAMES = 6;
    private static final String FIRST_LAW =
            "falls strong + frost * 40 + 2 - sort ; blows strong * 10 - wet * 60 ; rots wet ;";

    private final Lawn told = new Lawn();
    private final Lawn pictured = new Lawn();
    private final Lawn supposed = new Lawn();
    private final Course days = new Course();
    private final Heaps rakers = new Heaps();
    private final Reader reader = new Reader();
    private final Law[] book = new Law[TEXTS];
    private final Sheet[] pile = new Sheet[SHEETS];
    private final int[] asked = new int[NAMES];
    private final int[] found = new int[CELLS];
    private int written;
    private boolean hasImage;

    public LeavesBeforeWind() {
        for (int t = 0; t < TEXTS; t++) book[t] = new Law();
        for (int s = 0; s < SHEETS; s++) pile[s] = new Sheet();
        for (int i = 0; i < FIRST_LAW.length(); i++) reader.add(FIRST_LAW.charAt(i));
        reader.read(book[0]);
        written = 1;
    }

    // ---- days, the law

    public int sky(int d, int what, int v) {
        if (!isDay(d)) return NO_SUCH;
        if (!within(what, WAY, RAIN) || !within(v, 0, mostOfSky(what))) return NOT_SO;
        int was = told.sky[what][d];
        told.sky[what][d] = v;
        return was;
    }

    public int skyTold(int d, int what) {
        if (!isDay(d)) return NO_SUCH;
        if (!within(what, WAY, RAIN)) return NOT_SO;
        return told.sky[what][d];
    }

    public int count(int what) {
        switch (what) {
            case 0: return told.trees;
            case 1: return told.raking;
            case 2: return written;
            case 3: return told.law;
            case 4: return reader.size;
            default: return BAD;
        }
    }

    public int feed(int n, int a, int b, int c, int d, int e) {
        boolean bytes = isByte(a) && isByte(b) && isByte(c) && isByte(d) && isByte(e);
        if (!within(n, 1, 5) || !bytes) return BAD;
        if (reader.size + n > TAPE) return FULL;
        reader.add(a);
        if (n > 1) reader.add(b);
        if (n > 2) reader.add(c);
        if (n > 3) reader.add(d);
        if (n > 4) reader.add(e);
        return reader.size;
    }

    public int text() {
        if (written >= TEXTS) return FULL;
        int fault = reader.read(book[written]);
        if (fault >= 0) return -100 - fault;
        written++;
        return written - 1;
    }

    public int force(int t) {
        if (!within(t, 0, written - 1)) return BAD;
        int was = told.law;
        told.law = t;
        return was;
    }

    public int asks(int part, int hanging, int strongFrost, int wetSort, int many) {
        boolean numbers = within(part, FALLS, ROTS) && within(hanging, 0, MOST_TOLD) && within(many, 0, MOST_TOLD);
        boolean sky = within(strongFrost, 0, 10 * MOST_STRONG + 1) && strongFrost % 10 <= 1;
        if (!numbers || !sky || !within(wetSort, 0, 10 + MOST_SORT)) return BAD;
        asked[LEFT] = hanging;
        asked[STRONG_WIND] = strongFrost / 10;
        asked[FROSTY] = strongFrost % 10;
        asked[IS_WET] = wetSort / 10;
        asked[SORT] = wetSort % 10;
        asked[MANY] = many;
        return book[told.law].says(part, asked);
    }

    // ---- cells, trees, leaves, heaps

    public int lay(int c, int kind, int more) {
        if (!isCell(c)) return NO_SUCH;
        if (!isKind(kind, more)) return NOT_SO;
        int was = told.kind[c];
        told.layOut(c, kind, more);
        return was;
    }

    public int plot(int c, int shape, int kind, int more) {
        int rows = shape / 10, columns = shape % 10;
        if (!isCell(c) || !within(rows, 1, SIDE) || !within(columns, 1, SIDE)) return BAD;
        if (!isKind(kind, more)) return NOT_SO;
        int toY = Math.min(SIDE, c / SIDE + rows), toX = Math.min(SIDE, c % SIDE + columns);
        int laid = 0;
        for (int y = c / SIDE; y < toY; y++) {
            for (int x = c % SIDE; x < toX; x++) {
                told.layOut(SIDE * y + x, kind, more);
                laid++;
            }
        }
        return laid;
    }

    public int cellTold(int c, int what) {
        if (!isCell(c)) return NO_SUCH;
        switch (what) {
            case 0: return told.kind[c];
            case 1: return told.more[c];
            case 2: return told.leaves[c];
            default: return NOT_SO;
        }
    }

    public int tree(int c, int sort, int leaves) {
        if (!isCell(c) || !within(sort, 0, MOST_SORT) || !within(leaves, 0, MOST_LEAVES)) return BAD;
        int t = told.trees;
        if (t >= TREES) return FULL;
        told.treeCell[t] = c;
        told.treeSort[t] = sort;
        told.treeLeaves[t] = leaves;
        told.trees = t + 1;
        return t;
    }

    public int treeTold(int t, int what) {
        if (!isTree(t)) return NO_SUCH;
        switch (what) {
            case 0: return told.treeCell[t];
            case 1: return told.treeSort[t];
            case 2: return told.treeLeaves[t];
            default: return NOT_SO;
        }
    }

    public int fell() {
        if (told.trees == 0) return STATE;
        told.trees--;
        if (pictured.trees > told.trees) hasImage = false;
        return told.trees;
    }

    public int strew(int c, int n) {
        if (!isCell(c)) return NO_SUCH;
        if (!within(n, 0, MOST_LEAVES)) return NOT_SO;
        int were = told.leaves[c];
        told.leaves[c] = n;
        return were;
    }

    public int rake(int set) {
        if (!within(set, 0, (1 << DAYS) - 1)) return BAD;
        int was = told.raking;
        told.raking = set;
        return was;
    }

    public long heap(long set) {
        if (set < 1 || set >= 1L << CELLS) return NO;
        long were = told.heaps;
        told.heaps = set;
        return were;
    }

    // ---- days gone through

    public int lie(int n, int c, int what) {
        if (!isSpan(n) || !isCell(c)) return NO_SUCH;
        if (!within(what, 0, 2)) return NOT_SO;
        goThrough(told, n);
        return what == 2 ? days.covered[c] : days.lying[what == 0 ? DRY : WET][c];
    }

    public int sum(int n, int what) {
        if (!isSpan(n)) return NO_SUCH;
        if (!within(what, 0, 8)) return NOT_SO;
        goThrough(told, n);
        return days.total(what);
    }

    public int hang(int n, int t) {
        if (!isSpan(n) || !isTree(t)) return NO_SUCH;
        goThrough(told, n);
        return days.hanging[t];
    }

    public int great(int what) {
        if (!isChoice(what)) return BAD;
        goThrough(told, DAYS);
        if (what == 0 && days.fallenIn(DAYS) == 0) return NONE;
        return firstOfMost(days.fallen, DAYS, what);
    }

    public int worst(int n, int what) {
        if (!isSpan(n)) return NO_SUCH;
        if (!isChoice(what)) return NOT_SO;
        goThrough(told, n);
        return firstOfMost(days.covered, CELLS, what);
    }

    public int corner(int n, int what) {
        if (!isSpan(n)) return NO_SUCH;
        if (!isChoice(what)) return NOT_SO;
        goThrough(told, n);
        days.tellLying(found);
        return firstOfMost(found, CELLS, what);
    }

    // ---- raking

    public int least(int most, int what) {
        if (!within(most, 0, DAYS) || !isChoice(what)) return BAD;
        int best = NONE, price = NONE;
        supposed.become(told);
        for (int k = 0; k < 16; k++) {
            supposed.raking = chosenSaturdays(k);
            goThrough(supposed, DAYS);
            boolean bare = firstOfMost(days.covered, CELLS, 1) <= most;
            if (bare && (best == NONE || days.cost < price)) {
                best = supposed.raking;
                price = days.cost;
            }
        }
        return what == 0 ? best : price;
    }

    public int thrice() {
        supposed.become(told);
        supposed.raking = RAKED_OFTEN;
        goThrough(supposed, DAYS);
        int often = days.cost;
        supposed.raking = RAKED_ONCE;
        goThrough(supposed, DAYS);
        return often - days.cost;
    }

    public int where(int n, int what) {
        if (!isSpan(n)) return NO_SUCH;
        if (!within(what, 0, 3)) return NOT_SO;
        goThrough(told, n);
        return what < 2 ? bestHeap(what) : bestTwoHeaps(what - 2);
    }

    public int raking(int n) {
        if (!isSpan(n)) return NO_SUCH;
        goThrough(told, n);
        return rakers.cost(told.heaps, days.lying);
    }

    // ---- winds, hurdles, shares

    public int tonight(int n, int wayStrong, int what) {
        if (!isSpan(n)) return NO_SUCH;
        if (!within(wayStrong, 0, 10 * WAYS - 1) || !within(what, 0, 2)) return NOT_SO;
        goThrough(told, n);
        days.tellLying(found);
        int off = days.offTogether();
        days.blow(told, book[told.law], wayStrong / 10, wayStrong % 10, 0);
        if (what == 1) return days.offTogether() - off;
        int together = 0;
        for (int c = 0; c < CELLS; c++) {
            int then = days.lyingIn(c);
            if (what == 2) together += Math.min(found[c], then);
            else if (found[c] == 0) together += then;
        }
        return together;
    }

    public int hurdle(int n, int more, int what) {
        if (!isSpan(n)) return NO_SUCH;
        if (!within(more, 0, MOST_MORE) || !isChoice(what)) return NOT_SO;
        for (int c = 0; c < CELLS; c++) {
            supposed.become(told);
            supposed.layOut(c, CORNER, more);
            goThrough(supposed, n);
            found[c] = days.lyingIn(c);
        }
        return firstOfMost(found, CELLS, what);
    }

    public long share(int n, int w, int part) {
        if (!isSpan(n) || !within(w, 0, WAYS - 1) || !isChoice(part)) return NO;
        goThrough(told, n);
        int all = told.leavesTogether() + days.fallenIn(n);
        return all == 0 ? NO : inLowestTerms(days.off[w], all, part);
    }

    public int away(int what) {
        if (!isChoice(what)) return BAD;
        supposed.become(told);
        for (int w = 0; w < WAYS; w++) {
            for (int d = 0; d < DAYS; d++) supposed.sky[WAY][d] = w;
            goThrough(supposed, DAYS);
            found[w] = days.off[w];
        }
        return firstOfMost(found, WAYS, what);
    }

    // ---- looks

    public int judge(int s, int n) {
        int refusal = refusalOfLook(s, n, 0);
        if (refusal != 0) return refusal;
        goThrough(told, n);
        return days.firstUnlike(pile[s].row);
    }

    public int laws(int s, int n) {
        int refusal = refusalOfLook(s, n, 0);
        if (refusal != 0) return refusal;
        int fitting = 0;
        supposed.become(told);
        for (int t = 0; t < written; t++) {
            supposed.law = t;
            goThrough(supposed, n);
            if (days.firstUnlike(pile[s].row) == NONE) fitting |= 1 << t;
        }
        return fitting;
    }

    public int winds(int s, int n) {
        int refusal = refusalOfLook(s, n, 1);
        if (refusal != 0) return refusal;
        int fitting = 0;
        supposed.become(told);
        for (int w = 0; w < WAYS; w++) {
            supposed.sky[WAY][n - 1] = w;
            goThrough(supposed, n);
            if (days.firstUnlike(pile[s].row) == NONE) fitting |= 1 << w;
        }
        return fitting;
    }

    public int film(int s, int n) {
        if (!isSheet(s)) return BAD;
        if (!isSpan(n)) return NOT_SO;
        goThrough(told, n);
        pile[s].become(INTS, CELLS);
        days.tellLying(pile[s].row);
        return CELLS;
    }

    // ---- winds by lot

    public int drawn(int seed, int n, int what) {
        if (!within(seed, 0, MOST_SEED) || !isSpan(n) || !within(what, 0, 8)) return BAD;
        supposed.become(told);
        supposed.draw(seed);
        goThrough(supposed, n);
        return days.total(what);
    }

    public long odds(int seed, int seeds, int most, int part) {
        if (!within(seed, 0, MOST_SEED) || !within(seeds, 1, MOST_SEEDS)) return NO;
        if (!within(most, 0, MOST_TOLD) || !isChoice(part)) return NO;
        int fitting = 0;
        supposed.become(told);
        for (int k = 0; k < seeds; k++) {
            supposed.draw(seed + k);
            goThrough(supposed, DAYS);
            if (days.total(0) <= most) fitting++;
        }
        return inLowestTerms(fitting, seeds, part);
    }

    public int image() {
        pictured.become(told);
        hasImage = true;
        return told.trees;
    }

    public int back() {
        if (!hasImage) return STATE;
        told.become(pictured);
        return told.trees;
    }

    // ---- the host

    public int sheet(int s, int sort, int n) {
        if (!isSheet(s) || !within(sort, NO_ROW, INTS)) return BAD;
        int size = sort == NO_ROW ? 0 : n;
        if (size > ROW) return BAD;
        if (size < 0) return BELOW_ZERO;
        pile[s].become(sort, size);
        return 1;
    }

    public int cell(int s, int i, int v) {
        if (!isSheet(s)) return BAD;
        Sheet row = pile[s];
        if (row.isMissing()) return MISSING;
        if (!within(i, 0, row.size - 1)) return OUTSIDE;
        row.put(i, v);
        return 1;
    }

    public int copy(int s, int i, int other, int j, int n) {
        if (!isSheet(s) || !isSheet(other)) return BAD;
        Sheet from = pile[s], to = pile[other];
        if (from.isMissing() || to.isMissing()) return MISSING;
        if (from.sort != to.sort) return UNLIKE;
        // n is looked at first: with it below 0 the differences could wrap
        if (n < 0 || !within(i, 0, from.size - n) || !within(j, 0, to.size - n)) return OUTSIDE;
        System.arraycopy(from.row, i, to.row, j, n);
        return n;
    }

    public int treesBy(int s, int sort, int at, int n) {
        if (!isSheet(s) || !within(sort, BYTES, INTS) || !within(n, 0, TREES)) return BAD;
        Sheet list = pile[s];
        if (list.isMissing()) return MISSING;
        if (list.sort != sort) return UNLIKE;
        int came = 0;
        for (int k = 0; k < n; k++) {
            if (!within(at, 0, list.size - 3 * k - 3)) return OUTSIDE;
            int i = at + 3 * k;
            if (tree(list.row[i], list.row[i + 1], list.row[i + 2]) >= 0) came++;
        }
        return came;
    }

    public int taken(int i, int kind) {
        if (!within(kind, GRASS, A_TREE)) return BAD;
        if (!within(i, 0, CELLS + TREES - 1)) return OUTSIDE;
        if (i < CELLS) return kind != A_TREE && Kinds.isOne(told.kind[i], kind) ? i : UNLIKE;
        if (!isTree(i - CELLS)) return MISSING;
        return kind == A_TREE ? told.treeLeaves[i - CELLS] : UNLIKE;
    }

    // ---- what the calls have in common

    private static boolean within(int v, int least, int most) {
        return v >= least && v <= most;
    }

    private static boolean isDay(int d) {
        return within(d, 0, DAYS - 1);
    }

    private static boolean isSpan(int n) {
        return within(n, 0, DAYS);
    }

    private static boolean isCell(int c) {
        return within(c, 0, CELLS - 1);
    }

    private static boolean isChoice(int what) {
        return within(what, 0, 1);
    }

    private static boolean isByte(int b) {
        return within(b, 0, 255);
    }

    private static boolean isSheet(int s) {
        return within(s, 0, SHEETS - 1);
    }

    private static boolean isKind(int kind, int more) {
        return within(kind, GRASS, HEDGE) && within(more, 0, MOST_MORE);
    }

    private boolean isTree(int t) {
        return within(t, 0, told.trees - 1);
    }

    private static int mostOfSky(int what) {
        switch (what) {
            case WAY: return WAYS - 1;
            case STRONG: return MOST_STRONG;
            default: return 1;
        }
    }

    private void goThrough(Lawn lawn, int n) {
        Law law = book[lawn.law];
        days.begin(lawn);
        for (int d = 0; d < n; d++) days.pass(lawn, law, d, rakers);
    }

    /** The place of the greatest number, of like ones the first (what 0), or that number (what 1). */
    private static int firstOfMost(int[] row, int size, int what) {
        int best = 0;
        for (int i = 1; i < size; i++) {
            if (row[i] > row[best]) best = i;
        }
        return what == 0 ? best : row[best];
    }

    /** Days 3, 6, 10, 13 as far as bits 0 .. 3 of k choose them: a greater k gives a greater set. */
    private static int chosenSaturdays(int k) {
        return (k & 1) << 3 | (k & 2) << 5 | (k & 4) << 8 | (k & 8) << 10;
    }

    private int bestHeap(int what) {
        int best = NONE, price = NONE;
        for (int c = 0; c < CELLS; c++) {
            int cost = rakers.cost(1L << c, days.lying);
            if (best == NONE || cost < price) {
                best = c;
                price = cost;
            }
        }
        return what == 0 ? best : price;
    }

    private int bestTwoHeaps(int what) {
        int best = NONE, price = NONE;
        for (int c = 0; c < CELLS; c++) {
            for (int other = c + 1; other < CELLS; other++) {
                int cost = rakers.cost(1L << c | 1L << other, days.lying);
                if (best == NONE || cost < price) {
                    best = 100 * c + other;
                    price = cost;
                }
            }
        }
        return what == 0 ? best : price;
    }

    private static long inLowestTerms(int above, int below, int part) {
        int divisor = below, rest = above;
        // some 24 rounds are the most that numbers of these sizes need
        for (int round = 0; round < 64 && rest != 0; round++) {
            int next = divisor % rest;
            divisor = rest;
            rest = next;
        }
        if (divisor == 0) return NO;
        return (part == 0 ? above : below) / divisor;
    }

    private int refusalOfLook(int s, int n, int leastDays) {
        if (!isSheet(s)) return BAD;
        if (pile[s].isMissing()) return MISSING;
        if (pile[s].size != CELLS) return BAD;
        return within(n, leastDays, DAYS) ? 0 : NOT_SO;
    }

    /** What the kinds do; what isn't told of a kind is as of the kind that it is one of. */
    private static final class Kinds {
        static int goOff(int kind, int more, int blown) {
            switch (kind) {
                case BED: return blown / 2;
                case CORNER: return Math.min(blown / 2, more);
                case PATH: return Math.max(blown - more, 0);
                default: return blown;
            }
        }

        static int come(int kind, int more, int blown) {
            switch (kind) {
                case WALL: return 0;
                case HEDGE: return Math.min(blown, more);
                default: return blown;
            }
        }

        static boolean suffers(int kind) {
            return kind == GRASS;
        }

        static boolean isOne(int kind, int of) {
            switch (of) {
                case GRASS: return true;
                case BED: return kind == BED || kind == CORNER;
                case WALL: return kind == WALL || kind == HEDGE;
                default: return kind == of;
            }
        }
    }

    /** All that is told and that an image keeps; also what is only supposed, for calls that ask "were it". */
    private static final class Lawn {
        private final int[][] sky = new int[SKIES][DAYS];
        private final int[] kind = new int[CELLS];
        private final int[] more = new int[CELLS];
        private final int[] leaves = new int[CELLS];
        private final int[] treeCell = new int[TREES];
        private final int[] treeSort = new int[TREES];
        private final int[] treeLeaves = new int[TREES];
        private int trees;
        private int raking;
        private long heaps = 1;
        private int law;

        void become(Lawn other) {
            for (int what = 0; what < SKIES; what++) System.arraycopy(other.sky[what], 0, sky[what], 0, DAYS);
            System.arraycopy(other.kind, 0, kind, 0, CELLS);
            System.arraycopy(other.more, 0, more, 0, CELLS);
            System.arraycopy(other.leaves, 0, leaves, 0, CELLS);
            System.arraycopy(other.treeCell, 0, treeCell, 0, TREES);
            System.arraycopy(other.treeSort, 0, treeSort, 0, TREES);
            System.arraycopy(other.treeLeaves, 0, treeLeaves, 0, TREES);
            trees = other.trees;
            raking = other.raking;
            heaps = other.heaps;
            law = other.law;
        }

        void layOut(int c, int newKind, int newMore) {
            kind[c] = newKind;
            more[c] = newMore;
        }

        int leavesTogether() {
            int together = 0;
            for (int c = 0; c < CELLS; c++) together += leaves[c];
            return together;
        }

        void draw(int seed) {
            // a long, as the product passes an int's 32 bits
            long lot = seed + 1;
            for (int d = 0; d < DAYS; d++) {
                lot = lot * 48271 % 2147483647;
                sky[WAY][d] = (int) (lot % WAYS);
                sky[STRONG][d] = (int) (lot / WAYS % 10);
            }
        }
    }

    /** Where the leaves are behind some days, and what happened on them. */
    private static final class Course {
        private final int[][] lying = new int[STATES][CELLS];
        private final int[][] blown = new int[STATES][CELLS];
        private final int[] covered = new int[CELLS];
        private final int[] hanging = new int[TREES];
        private final int[] fallen = new int[DAYS];
        private final int[] off = new int[WAYS];
        private final int[] names = new int[NAMES];
        private int rotten;
        private int raked;
        private int cost;

        void begin(Lawn lawn) {
            System.arraycopy(lawn.leaves, 0, lying[DRY], 0, CELLS);
            Arrays.fill(lying[WET], 0);
            Arrays.fill(covered, 0);
            Arrays.fill(hanging, 0);
            System.arraycopy(lawn.treeLeaves, 0, hanging, 0, lawn.trees);
            Arrays.fill(fallen, 0);
            Arrays.fill(off, 0);
            rotten = 0;
            raked = 0;
            cost = 0;
        }

        void pass(Lawn lawn, Law law, int d, Heaps rakers) {
            soakOrDry(lawn.sky[RAIN][d] == 1);
            shed(lawn, law, d);
            blow(lawn, law, lawn.sky[WAY][d], lawn.sky[STRONG][d], lawn.sky[FROST][d]);
            rot(law);
            cover(lawn);
            if ((lawn.raking >> d & 1) == 1) rakeUp(rakers.cost(lawn.heaps, lying));
        }

        private void soakOrDry(boolean rains) {
            for (int c = 0; c < CELLS; c++) {
                int drying = rains ? -lying[DRY][c] : lying[WET][c] / 2;
                lying[DRY][c] += drying;
                lying[WET][c] -= drying;
            }
        }

        private void shed(Lawn lawn, Law law, int d) {
            int rain = lawn.sky[RAIN][d];
            names[STRONG_WIND] = lawn.sky[STRONG][d];
            names[FROSTY] = lawn.sky[FROST][d];
            names[IS_WET] = rain;
            names[MANY] = 0;
            for (int t = 0; t < lawn.trees; t++) {
                names[LEFT] = hanging[t];
                names[SORT] = lawn.treeSort[t];
                int falling = Math.min(hanging[t], law.says(FALLS, names));
                hanging[t] -= falling;
                fallen[d] += falling;
                lying[rain == 1 ? WET : DRY][lawn.treeCell[t]] += falling;
            }
        }

        /** All blow at once: the lying ones are looked at, the blown ones change, till all have been looked at. */
        void blow(Lawn lawn, Law law, int way, int strong, int frost) {
            names[STRONG_WIND] = strong;
            names[FROSTY] = frost;
            copyRows(lying, blown);
            for (int c = 0; c < CELLS; c++) {
                int many = lyingIn(c);
                if (many == 0) continue;
                int to = next(c, way);
                for (int state = 0; state < STATES; state++) {
                    int some = portion(law, BLOWS, c, state, many);
                    int moving = Kinds.goOff(lawn.kind[c], lawn.more[c], some);
                    if (to == NONE) {
                        off[way] += moving;
                    } else {
                        moving = Kinds.come(lawn.kind[to], lawn.more[to], moving);
                        blown[state][to] += moving;
                    }
                    blown[state][c] -= moving;
                }
            }
            copyRows(blown, lying);
        }

        private void rot(Law law) {
            for (int c = 0; c < CELLS; c++) {
                int many = lyingIn(c);
                for (int state = 0; state < STATES; state++) {
                    int rotting = portion(law, ROTS, c, state, many);
                    lying[state][c] -= rotting;
                    rotten += rotting;
                }
            }
        }

        /** Of the dry or wet ones in a cell as many by a hundred as the law says; where none lie, it needn't be asked. */
        private int portion(Law law, int part, int c, int state, int many) {
            int some = lying[state][c];
            if (some == 0) return 0;
            names[LEFT] = 0;
            names[IS_WET] = state;
            names[SORT] = 0;
            names[MANY] = many;
            return some * law.says(part, names) / 100;
        }

        private void cover(Lawn lawn) {
            for (int c = 0; c < CELLS; c++) {
                if (Kinds.suffers(lawn.kind[c]) && lyingIn(c) >= 20) covered[c]++;
            }
        }

        private void rakeUp(int price) {
            cost += price;
            raked += lyingTogether();
            Arrays.fill(lying[DRY], 0);
            Arrays.fill(lying[WET], 0);
        }

        private static void copyRows(int[][] from, int[][] to) {
            System.arraycopy(from[DRY], 0, to[DRY], 0, CELLS);
            System.arraycopy(from[WET], 0, to[WET], 0, CELLS);
        }

        /** The cell one on by a way; NONE: that is beyond the lawn. */
        private static int next(int c, int way) {
            switch (way) {
                case 0: return c / SIDE < SIDE - 1 ? c + SIDE : NONE;
                case 1: return c % SIDE < SIDE - 1 ? c + 1 : NONE;
                case 2: return c / SIDE > 0 ? c - SIDE : NONE;
                default: return c % SIDE > 0 ? c - 1 : NONE;
            }
        }

        int lyingIn(int c) {
            return lying[DRY][c] + lying[WET][c];
        }

        void tellLying(int[] row) {
            for (int c = 0; c < CELLS; c++) row[c] = lyingIn(c);
        }

        int firstUnlike(int[] row) {
            for (int c = 0; c < CELLS; c++) {
                if (row[c] != lyingIn(c)) return c;
            }
            return NONE;
        }

        private int lyingTogether() {
            int together = 0;
            for (int c = 0; c < CELLS; c++) together += lyingIn(c);
            return together;
        }

        private int hangingTogether() {
            int together = 0;
            for (int t = 0; t < TREES; t++) together += hanging[t];
            return together;
        }

        int fallenIn(int n) {
            int together = 0;
            for (int d = 0; d < n; d++) together += fallen[d];
            return together;
        }

        int offTogether() {
            int together = 0;
            for (int w = 0; w < WAYS; w++) together += off[w];
            return together;
        }

        int total(int what) {
            switch (what) {
                case 0: return lyingTogether();
                case 1: return hangingTogether();
                case 2: return rotten;
                case 3: return raked;
                case 4: return cost;
                default: return off[what - 5];
            }
        }
    }

    /** What raking onto heaps costs. */
    private static final class Heaps {
        private static final int WET_WEIGHS = 4, EACH_HEAP = 30;

        private final int[] at = new int[CELLS];

        int cost(long set, int[][] lying) {
            int heaps = list(set);
            int sum = 0;
            long used = 0;
            for (int c = 0; c < CELLS; c++) {
                int weight = lying[DRY][c] + WET_WEIGHS * lying[WET][c];
                if (weight == 0) continue;
                int heap = nearest(c, heaps);
                sum += weight * far(c, heap);
                used |= 1L << heap;
            }
            return sum + EACH_HEAP * Long.bitCount(used);
        }

        /** The heaps' cells in rising order, so that the first of like ones is met first. */
        private int list(long set) {
            int heaps = 0;
            for (int c = 0; c < CELLS; c++) {
                if ((set >>> c & 1) == 1) {
                    at[heaps] = c;
                    heaps++;
                }
            }
            return heaps;
        }

        private int nearest(int c, int heaps) {
            int best = at[0];
            for (int k = 1; k < heaps; k++) {
                if (far(c, at[k]) < far(c, best)) best = at[k];
            }
            return best;
        }

        private static int far(int c, int other) {
            return Math.abs(c / SIDE - other / SIDE) + Math.abs(c % SIDE - other % SIDE);
        }
    }

    /** A text that was read: operations behind what they are done to, so that asking needs no recursion. */
    private static final class Law {
        /** Numbers stand for themselves, these below 0 for names (-1 less the name) and operations. */
        private static final int FIRST_NAME = -1, LAST_NAME = -NAMES;
        private static final int NEGATE = -7, NOT = -8;
        private static final int PLUS = -9, LESS = -10, TIMES = -11, BELOW = -12, EQUAL = -13, AND = -14, OR = -15;

        // a text never has more operations, nor needs more places at once, than it has bytes
        private final int[] code = new int[TAPE];
        private final int[] stack = new int[TAPE];
        private final int[] ends = new int[PARTS];
        private int size;

        void clear() {
            size = 0;
        }

        void add(int operation) {
            if (size >= TAPE) return;
            code[size] = operation;
            size++;
        }

        void endPart(int part) {
            ends[part] = size;
        }

        int says(int part, int[] names) {
            int top = 0;
            for (int i = part == FALLS ? 0 : ends[part - 1]; i < ends[part]; i++) {
                int operation = code[i];
                if (operation >= LAST_NAME) {
                    if (top >= TAPE) return 0;
                    stack[top] = operation >= 0 ? operation : names[FIRST_NAME - operation];
                    top++;
                } else if (operation >= NOT) {
                    if (top < 1) return 0;
                    stack[top - 1] = turned(operation, stack[top - 1]);
                } else {
                    if (top < 2) return 0;
                    top--;
                    stack[top - 1] = joined(operation, stack[top - 1], stack[top]);
                }
            }
            int most = part == FALLS ? MOST_LEAVES : 100;
            return Math.max(0, Math.min(most, stack[0]));
        }

        private static int turned(int operation, int v) {
            return operation == NEGATE ? -v : truth(v == 0);
        }

        private static int joined(int operation, int v, int w) {
            switch (operation) {
                case PLUS: return v + w;
                case LESS: return v - w;
                case TIMES: return v * w;
                case BELOW: return truth(v < w);
                case EQUAL: return truth(v == w);
                case AND: return truth(v != 0 && w != 0);
                default: return truth(v != 0 || w != 0);
            }
        }

        private static int truth(boolean so) {
            return so ? 1 : 0;
        }
    }

    /** The tape, and the reading of a text from it, by recursion as deep as the document's five open ones let it. */
    private static final class Reader {
        /** The tokens: signs stand for themselves, keys are FIRST_KEY and their number among WORDS. */
        private static final int END = 0, WRONG = 1, NUMBER = 2, NAME = 3, FIRST_KEY = 4;
        private static final int OR = 7, AND = 8, NOT = 9, KEYS = 6;
        private static final String WORDS = "falls blows rots or and not left strong frost wet sort many ";

        private final int[] tape = new int[TAPE];
        private int size;
        private int at;
        private int token;
        private int place;
        private int value;
        private int fault;
        private Law law;

        void add(int b) {
            if (size >= TAPE) return;
            tape[size] = b;
            size++;
        }

        /** Makes a law of what the tape has, and empties it: the place of the fault, NONE if there is none. */
        int read(Law target) {
            law = target;
            law.clear();
            at = 0;
            fault = NONE;
            advance();
            for (int part = 0; part < PARTS; part++) {
                expect(FIRST_KEY + part);
                readOr(0);
                law.endPart(part);
                expect(';');
            }
            if (!has(END)) faultHere();
            size = 0;
            return fault;
        }

        private void readOr(int open) {
            readAnd(open);
            for (int k = 0; k < TAPE && has(OR); k++) {
                advance();
                readAnd(open);
                law.add(Law.OR);
            }
        }

        private void readAnd(int open) {
            readNot(open);
            for (int k = 0; k < TAPE && has(AND); k++) {
                advance();
                readNot(open);
                law.add(Law.AND);
            }
        }

        private void readNot(int open) {
            if (has(NOT)) {
                if (goesDeeper(open)) {
                    readNot(open + 1);
                    law.add(Law.NOT);
                }
                return;
            }
            readSum(open);
            if (!has('<') && !has('=')) return;
            int operation = token == '<' ? Law.BELOW : Law.EQUAL;
            advance();
            readSum(open);
            law.add(operation);
        }

        private void readSum(int open) {
            readTerm(open);
            for (int k = 0; k < TAPE && (has('+') || has('-')); k++) {
                int operation = token == '+' ? Law.PLUS : Law.LESS;
                advance();
                readTerm(open);
                law.add(operation);
            }
        }

        private void readTerm(int open) {
            readOne(open);
            for (int k = 0; k < TAPE && has('*'); k++) {
                advance();
                readOne(open);
                law.add(Law.TIMES);
            }
        }

        private void readOne(int open) {
            if (has(NUMBER) || has(NAME)) {
                law.add(token == NUMBER ? value : Law.FIRST_NAME - value);
                advance();
            } else if (has('-')) {
                if (goesDeeper(open)) {
                    readOne(open + 1);
                    law.add(Law.NEGATE);
                }
            } else if (has('(')) {
                if (goesDeeper(open)) {
                    readOr(open + 1);
                    expect(')');
                }
            } else {
                faultHere();
            }
        }

        /** Steps over what opens one more, or finds the fault that too many are open. */
        private boolean goesDeeper(int open) {
            if (open >= DEEPEST) faultHere();
            else advance();
            return open < DEEPEST;
        }

        /** Behind a fault nothing is met any more, so that it stays the first. */
        private boolean has(int what) {
            return fault == NONE && token == what;
        }

        private void expect(int what) {
            if (has(what)) advance();
            else faultHere();
        }

        private void faultHere() {
            if (fault == NONE) fault = place;
        }

        private void advance() {
            for (; at < size && (tape[at] == 32 || tape[at] == 10); at++) { }
            place = at;
            if (at >= size) token = END;
            else if (isDigit(tape[at])) advanceNumber();
            else if (isLetter(tape[at])) advanceWord();
            else advanceSign();
        }

        private void advanceNumber() {
            value = 0;
            for (; at < size && isDigit(tape[at]); at++) value = value * 10 + tape[at] - '0';
            token = at - place > MOST_DIGITS ? WRONG : NUMBER;
        }

        private void advanceWord() {
            for (; at < size && isLetter(tape[at]); at++) { }
            int word = wordNumber();
            value = word - KEYS;
            if (word == NONE) token = WRONG;
            else token = word < KEYS ? FIRST_KEY + word : NAME;
        }

        private void advanceSign() {
            int b = tape[at];
            boolean sign = b == '(' || b == ')' || b == ';' || b == '+' || b == '-' || b == '*' || b == '<' || b == '=';
            token = sign ? b : WRONG;
            at++;
        }

        /** Which of WORDS stands from place to at; NONE of them. */
        private int wordNumber() {
            int word = 0, i = place;
            boolean same = true;
            for (int k = 0; k < WORDS.length(); k++) {
                char letter = WORDS.charAt(k);
                if (letter != ' ') {
                    same = same && i < at && tape[i] == letter;
                    i++;
                } else if (same && i == at) {
                    return word;
                } else {
                    word++;
                    i = place;
                    same = true;
                }
            }
            return NONE;
        }

        private static boolean isDigit(int b) {
            return b >= '0' && b <= '9';
        }

        private static boolean isLetter(int b) {
            return b >= 'a' && b <= 'z';
        }
    }

    /** A row of numbers. They are held as ints, cut to their sort when they are put in. */
    private static final class Sheet {
        private final int[] row = new int[ROW];
        private int sort = NO_ROW;
        private int size;

        boolean isMissing() {
            return sort == NO_ROW;
        }

        void become(int newSort, int n) {
            Arrays.fill(row, 0);
            sort = newSort;
            size = n;
        }

        void put(int i, int v) {
            if (sort == BYTES) row[i] = (byte) v;
            else if (sort == SHORTS) row[i] = (short) v;
            else row[i] = v;
        }
    }
}
