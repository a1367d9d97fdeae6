import java.math.BigInteger;

/**
 * What plans, what was SEEN, luck and years must be, by schools told otherwise: the document says each of them as what
 * other calls would answer, had one thing been told otherwise. So they are asked of schools in which it was.
 */
final class Twins {
    private static final int NONE = -1;
    private static final int[][] ORDERS = {{0, 1, 2}, {0, 2, 1}, {1, 0, 2}, {1, 2, 0}, {2, 0, 1}, {2, 1, 0}};

    private Twins() {
    }

    /** Which SEAT, how many MARKS. */
    static int[] sit(School school, int boy) {
        int own = school.benches().indexOf('a' + boy);
        int[] best = {NONE, NONE};
        int seats = school.made().count(1);
        for (int seat = 0; seat < seats && own >= 0; seat++) {
            int marks = school.swapped(own, school.byteOfSeat(seat)).made().at(29, boy, 1);
            if (marks > best[1]) {
                best = new int[] {seat, marks};
            }
        }
        return best;
    }

    /** The first SEAT, the other one, how much; for schools with room for one CHANGE more. */
    static int[] trade(School school, int day) {
        int[] best = {NONE, NONE, NONE};
        int seats = school.made().count(1);
        for (int one = 0; one < seats; one++) {
            for (int other = one + 1; other < seats; other++) {
                int much = school.and(day, one, other).made().form();
                if (much > best[2]) {
                    best = new int[] {one, other, much};
                }
            }
        }
        return best;
    }

    /** The one, the other. */
    static int[] rush(School school) {
        MarkedByNext told = school.made();
        for (int one = 0; one < told.count(0); one++) {
            for (int other = one + 1; other < told.count(0); other++) {
                int seat = school.benches().indexOf('a' + one);
                int otherSeat = school.benches().indexOf('a' + other);
                if (seat >= 0 && otherSeat >= 0) {
                    MarkedByNext x = school.swapped(seat, otherSeat).made();
                    if (x.at(29, one, 1) > told.at(29, one, 1) && x.at(29, other, 1) > told.at(29, other, 1)) {
                        return new int[] {one, other};
                    }
                }
            }
        }
        return new int[] {NONE, NONE};
    }

    /** How much, then the SUBJECTS. */
    static int[] table(School school) {
        int[] best = {NONE, NONE, NONE, NONE};
        for (int[] order : ORDERS) {
            int much = school.ordered(order).made().form();
            if (much > best[0]) {
                best = new int[] {much, order[0], order[1], order[2]};
            }
        }
        return best;
    }

    /** How many, then which. */
    static int[] spare(School school) {
        int n = school.changes().size();
        int all = (1 << n) - 1;
        if (nobodyIsIdle(school)) {
            return new int[] {0, NONE, NONE};
        }
        for (int one = 0; one < n; one++) {
            if (nobodyIsIdle(school.with(all ^ 1 << one))) {
                return new int[] {1, one, NONE};
            }
        }
        for (int one = 0; one < n; one++) {
            for (int other = one + 1; other < n; other++) {
                if (nobodyIsIdle(school.with(all ^ 1 << one ^ 1 << other))) {
                    return new int[] {2, one, other};
                }
            }
        }
        return new int[] {NONE, NONE, NONE};
    }

    private static boolean nobodyIsIdle(School school) {
        MarkedByNext x = school.made();
        for (int boy = 0; boy < x.count(0); boy++) {
            if (school.benches().indexOf('a' + boy) >= 0 && (x.idle() >> boy & 1) != 0) {
                return false;
            }
        }
        return true;
    }

    private static boolean comesOut(School school, School as) {
        MarkedByNext x = as.made();
        for (int[] s : school.sights()) {
            if (x.knows(s[0], s[1], s[2]) != s[3]) {
                return false;
            }
        }
        return true;
    }

    static int never(School school) {
        int bits = 0;
        int n = school.changes().size();
        for (int i = 0; i < n; i++) {
            if (comesOut(school, school.with((1 << n) - 1 ^ 1 << i))) {
                bits |= 1 << i;
            }
        }
        return bits;
    }

    static int sort(School school, int boy) {
        int bits = 0;
        for (int kind = 0; kind < 3; kind++) {
            if (comesOut(school, school.withByte(5 * boy, "cdb".charAt(kind)))) {
                bits |= 1 << kind;
            }
        }
        return bits;
    }

    private static School withFirst(School school, int boy, int subject, int figure) {
        return school.withByte(5 * boy + 1 + subject, (char) ('0' + figure));
    }

    static int first(School school, int boy, int subject) {
        int bits = 0;
        for (int figure = 0; figure <= 9; figure++) {
            if (comesOut(school, withFirst(school, boy, subject, figure))) {
                bits |= 1 << figure;
            }
        }
        return bits;
    }

    static int ask(School school, int boy, int subject) {
        int bits = first(school, boy, subject);
        MarkedByNext[] byFigure = new MarkedByNext[10];
        for (int figure = 0; figure <= 9; figure++) {
            byFigure[figure] = withFirst(school, boy, subject, figure).made();
        }
        int bestDay = NONE;
        int least = 11;
        for (int day = 0; day < 30; day++) {
            int[] like = new int[31];
            int greatest = 0;
            for (int figure = 0; figure <= 9; figure++) {
                if ((bits >> figure & 1) != 0) {
                    greatest = Math.max(greatest, ++like[byFigure[figure].knows(day, boy, subject)]);
                }
            }
            if (greatest < least) {
                least = greatest;
                bestDay = day;
            }
        }
        return bestDay;
    }

    /** Above, below. */
    static long[] luck(School school, int c, int boy) {
        int n = school.changes().size();
        BigInteger above = BigInteger.ZERO;
        for (int bits = 0; bits < 1 << n; bits++) {
            if (school.with(bits).made().best() == boy) {
                int done = Integer.bitCount(bits);
                above = above.add(BigInteger.valueOf(c).pow(done).multiply(BigInteger.valueOf(16 - c).pow(n - done)));
            }
        }
        BigInteger below = BigInteger.valueOf(16).pow(n);
        BigInteger both = above.gcd(below);
        return new long[] {above.divide(both).longValueExact(), below.divide(both).longValueExact()};
    }

    /** FORM, MARKS; SEED by whole numbers without an end, cut to 32 bits by hand. */
    static int[] years(School school, int seed, int n) {
        School as = new School(school.boys(), school.benches());
        int seats = as.made().count(1);
        BigInteger s = BigInteger.valueOf(seed);
        for (int i = 0; i < n && seats > 0; i++) {
            int[] lots = new int[3];
            for (int k = 0; k < 3; k++) {
                s = s.multiply(BigInteger.valueOf(1103515245)).add(BigInteger.valueOf(12345)).mod(BigInteger.ONE.shiftLeft(32));
                lots[k] = s.shiftRight(16).intValueExact() % (k == 0 ? 30 : seats);
            }
            if (lots[1] != lots[2]) {
                as = as.and(lots[0], lots[1], lots[2]);
            }
        }
        MarkedByNext x = as.made();
        return new int[] {x.form(), x.count(5)};
    }
}
