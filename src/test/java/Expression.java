/** An expression by lot: its text, and what it is, reckoned on its tree. */
interface Expression {
    String[] NAMES = {"left", "strong", "frost", "wet", "sort", "many"};

    String text();

    int of(int[] names);

    record Leaf(String text, int name, int number) implements Expression {
        public int of(int[] names) {
            return name < 0 ? number : names[name];
        }
    }

    record Behind(String ahead, Expression e, String behind) implements Expression {
        public String text() {
            return ahead + e.text() + behind;
        }

        public int of(int[] names) {
            int v = e.of(names);
            return switch (ahead.trim()) {
                case "-" -> -v;
                case "not" -> v == 0 ? 1 : 0;
                default -> v;
            };
        }
    }

    record Two(Expression a, String sign, Expression b) implements Expression {
        public String text() {
            return a.text() + sign + b.text();
        }

        public int of(int[] names) {
            int v = a.of(names), w = b.of(names);
            return switch (sign.trim()) {
                case "+" -> v + w;
                case "-" -> v - w;
                case "*" -> v * w;
                case "<" -> v < w ? 1 : 0;
                case "=" -> v == w ? 1 : 0;
                case "and" -> v != 0 && w != 0 ? 1 : 0;
                default -> v != 0 || w != 0 ? 1 : 0;
            };
        }
    }

    /** Makes expressions whose texts have no more than five open at once. */
    record Maker(Lots lots) {
        Expression or(int open) {
            Expression e = and(open);
            return lots.oneOf(6) ? new Two(e, " or ", and(open)) : e;
        }

        private Expression and(int open) {
            Expression e = not(open);
            return lots.oneOf(6) ? new Two(e, "\nand ", not(open)) : e;
        }

        private Expression not(int open) {
            if (open < 5 && lots.oneOf(8)) return new Behind("not ", not(open + 1), "");
            Expression e = sum(open);
            if (!lots.oneOf(5)) return e;
            return new Two(e, lots.oneOf(2) ? "<" : " = ", sum(open));
        }

        private Expression sum(int open) {
            Expression e = term(open);
            for (int k = lots.next(3); k > 0; k--) e = new Two(e, lots.oneOf(2) ? " + " : "-", term(open));
            return e;
        }

        private Expression term(int open) {
            Expression e = one(open);
            return lots.oneOf(3) ? new Two(e, "*", one(open)) : e;
        }

        private Expression one(int open) {
            if (open < 5 && lots.oneOf(7)) return new Behind("-", one(open + 1), "");
            if (open < 5 && lots.oneOf(4)) return new Behind("(", or(open + 1), " )");
            if (lots.oneOf(2)) {
                int name = lots.next(6);
                return new Leaf(NAMES[name], name, 0);
            }
            int number = lots.oneOf(5) ? lots.next(10000) : lots.next(30);
            return new Leaf("" + number, -1, number);
        }
    }
}
