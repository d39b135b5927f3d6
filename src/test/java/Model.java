import java.util.ArrayList;
import java.util.List;

/** A second reading of the document, by kinds that are classes and leaves that are gone through one heap of them at a time. */
final class Model {
    /** falls, blows, rots. */
    record Law(Expression falls, Expression blows, Expression rots) {
        int says(int part, int... names) {
            Expression e = part == 0 ? falls : part == 1 ? blows : rots;
            return Math.min(Math.max(e.of(names), 0), part == 0 ? 999 : 100);
        }
    }

    static class Grass {
        final int more;

        Grass(int more) {
            this.more = more;
        }

        int goOff(int some) {
            return some;
        }

        int come(int some) {
            return some;
        }

        boolean suffers() {
            return true;
        }
    }

    static class Bed extends Grass {
        Bed(int more) {
            super(more);
        }

        @Override int goOff(int some) {
            return some / 2;
        }

        @Override boolean suffers() {
            return false;
        }
    }

    static class Wall extends Grass {
        Wall(int more) {
            super(more);
        }

        @Override int come(int some) {
            return 0;
        }

        @Override boolean suffers() {
            return false;
        }
    }

    static class Corner extends Bed {
        Corner(int more) {
            super(more);
        }

        @Override int goOff(int some) {
            return Math.min(super.goOff(some), more);
        }
    }

    static class Path extends Grass {
        Path(int more) {
            super(more);
        }

        @Override int goOff(int some) {
            return some > more ? some - more : 0;
        }

        @Override boolean suffers() {
            return false;
        }
    }

    static class Hedge extends Wall {
        Hedge(int more) {
            super(more);
        }

        @Override int come(int some) {
            return some < more ? some : more;
        }
    }

    static Grass kind(int kind, int more) {
        return switch (kind) {
            case 0 -> new Grass(more);
            case 1 -> new Bed(more);
            case 2 -> new Wall(more);
            case 3 -> new Corner(more);
            case 4 -> new Path(more);
            default -> new Hedge(more);
        };
    }

    int[][] sky = new int[14][4];
    Grass[] cells = new Grass[36];
    int[] leaves = new int[36];
    List<int[]> trees = new ArrayList<>();
    int raking = 0;
    long heaps = 1;
    Law law;

    Model copy() {
        Model m = new Model();
        for (int d = 0; d < 14; d++) m.sky[d] = sky[d].clone();
        m.cells = cells.clone();
        m.leaves = leaves.clone();
        m.trees = trees;
        m.raking = raking;
        m.heaps = heaps;
        m.law = law;
        return m;
    }

    Model raked(int... onDays) {
        Model m = copy();
        m.raking = 0;
        for (int d : onDays) m.raking += 1 << d;
        return m;
    }

    Model drawn(int seed) {
        Model m = copy();
        java.math.BigInteger lot = java.math.BigInteger.valueOf(seed + 1);
        for (int d = 0; d < 14; d++) {
            lot = lot.multiply(java.math.BigInteger.valueOf(48271)).mod(java.math.BigInteger.valueOf(2147483647));
            m.sky[d][0] = lot.intValue() % 4;
            m.sky[d][1] = lot.intValue() / 4 % 10;
        }
        return m;
    }

    /** Behind some days. */
    final class Behind {
        int[] dry = leaves.clone(), wet = new int[36], covered = new int[36];
        int[] hang = trees.stream().mapToInt(t -> t[2]).toArray();
        int[] off = new int[4], fell = new int[14];
        int rotten, raked, cost;

        Behind(int n) {
            for (int d = 0; d < n; d++) day(d, sky[d][0], sky[d][1], sky[d][2], sky[d][3] == 1);
        }

        private void day(int d, int way, int strong, int frost, boolean rain) {
            for (int c = 0; c < 36; c++) {
                int all = all(c);
                wet[c] = rain ? all : wet[c] - wet[c] / 2;
                dry[c] = all - wet[c];
            }
            for (int t = 0; t < hang.length; t++) {
                int[] tree = trees.get(t);
                int fall = Math.min(hang[t], law.says(0, hang[t], strong, frost, rain ? 1 : 0, tree[1], 0));
                hang[t] -= fall;
                fell[d] += fall;
                (rain ? wet : dry)[tree[0]] += fall;
            }
            blow(way, strong, frost);
            for (int c = 0; c < 36; c++) {
                int all = all(c);
                int dryRot = dry[c] * law.says(2, 0, strong, frost, 0, 0, all) / 100;
                int wetRot = wet[c] * law.says(2, 0, strong, frost, 1, 0, all) / 100;
                dry[c] -= dryRot;
                wet[c] -= wetRot;
                rotten += dryRot + wetRot;
                if (cells[c].suffers() && all(c) > 19) covered[c]++;
            }
            if ((raking & 1 << d) != 0) rake();
        }

        void blow(int way, int strong, int frost) {
            int[] dryGo = new int[36], wetGo = new int[36];
            for (int c = 0; c < 36; c++) {
                dryGo[c] = cells[c].goOff(dry[c] * law.says(1, 0, strong, frost, 0, 0, all(c)) / 100);
                wetGo[c] = cells[c].goOff(wet[c] * law.says(1, 0, strong, frost, 1, 0, all(c)) / 100);
            }
            for (int c = 0; c < 36; c++) {
                int y = c / 6 + (way == 0 ? 1 : way == 2 ? -1 : 0), x = c % 6 + (way == 1 ? 1 : way == 3 ? -1 : 0);
                if (y < 0 || x < 0 || y > 5 || x > 5) {
                    off[way] += dryGo[c] + wetGo[c];
                } else {
                    dryGo[c] = cells[6 * y + x].come(dryGo[c]);
                    wetGo[c] = cells[6 * y + x].come(wetGo[c]);
                    dry[6 * y + x] += dryGo[c];
                    wet[6 * y + x] += wetGo[c];
                }
                dry[c] -= dryGo[c];
                wet[c] -= wetGo[c];
            }
        }

        private void rake() {
            cost += cost(heaps);
            for (int c = 0; c < 36; c++) {
                raked += all(c);
                dry[c] = wet[c] = 0;
            }
        }

        int cost(long set) {
            int sum = 0;
            for (int heap = 0; heap < 36; heap++) {
                boolean used = false;
                for (int c = 0; c < 36 && (set >> heap & 1) == 1; c++) {
                    if (all(c) == 0 || nearest(c, set) != heap) continue;
                    used = true;
                    sum += (dry[c] + 4 * wet[c]) * far(c, heap);
                }
                if (used) sum += 30;
            }
            return sum;
        }

        private int nearest(int c, long set) {
            for (int far = 0; far < 11; far++) {
                for (int heap = 0; heap < 36; heap++) {
                    if ((set >> heap & 1) == 1 && far(c, heap) == far) return heap;
                }
            }
            return -1;
        }

        private int far(int c, int heap) {
            return Math.abs(c / 6 - heap / 6) + Math.abs(c % 6 - heap % 6);
        }

        int all(int c) {
            return dry[c] + wet[c];
        }

        int[] all() {
            int[] all = new int[36];
            for (int c = 0; c < 36; c++) all[c] = all(c);
            return all;
        }

        int sum(int what) {
            return switch (what) {
                case 0 -> java.util.stream.IntStream.of(all()).sum();
                case 1 -> java.util.stream.IntStream.of(hang).sum();
                case 2 -> rotten;
                case 3 -> raked;
                case 4 -> cost;
                default -> off[what - 5];
            };
        }
    }
}
