import java.math.BigInteger;
import java.util.ArrayList;
import java.util.List;

/** The digest by all the other calls, by whole numbers without an end that are cut to 64 bits at last. */
final class Digest {
    private Digest() {
    }

    static long of(MarkedByNext x) {
        List<Long> all = new ArrayList<>();
        for (int what = 0; what <= 7; what++) {
            all.add((long) x.count(what));
        }
        add(all, x.fault(0), x.fault(1));
        for (int s = 0; s < x.count(1); s++) {
            add(all, x.seat(s, 0), x.seat(s, 1), x.sits(6, s), x.sits(29, s), x.ghost(s));
        }
        for (int b = 0; b < x.count(0); b++) {
            boy(all, x, b);
        }
        add(all, x.master(0), x.master(1), x.master(2), x.best(), x.form(), x.idle());
        add(all, x.trade(8, 0), x.trade(8, 1), x.trade(8, 2), x.rush(0), x.rush(1));
        add(all, x.table(-1), x.table(0), x.table(1), x.table(2), x.spare(-1), x.spare(0));
        add(all, x.never(), x.years(7, 6, 0), x.years(7, 6, 1));
        BigInteger h = BigInteger.valueOf(17);
        for (long v : all) {
            h = h.multiply(BigInteger.valueOf(31)).add(BigInteger.valueOf(v));
        }
        return h.longValue();
    }

    private static void boy(List<Long> all, MarkedByNext x, int b) {
        add(all, x.boy(b, 0), x.boy(b, 1), x.boy(b, 2), x.boy(b, 3));
        for (int day : new int[] {0, 8, 29}) {
            add(all, x.at(day, b, 0), x.at(day, b, 1), x.at(day, b, 2));
        }
        for (int s = 0; s < 3; s++) {
            add(all, x.knows(8, b, s), x.knows(29, b, s), x.first(b, s), x.ask(b, s));
        }
        add(all, x.sit(b, 0), x.sit(b, 1), x.sort(b), x.luck(5, b, 0), x.luck(5, b, 1));
    }

    private static void add(List<Long> all, long... next) {
        for (long v : next) {
            all.add(v);
        }
    }
}
