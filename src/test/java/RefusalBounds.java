import java.util.ArrayList;
import java.util.List;
import java.util.function.ToLongFunction;

/** All promises: refusals in their order, and that they change nothing. */
final class RefusalBounds extends Bounds {
    /** A refused call, what it answers, and the number of its FINDING, or 0 if it is none. */
    private record Refused(int promise, String call, ToLongFunction<MarkedByNext> answer, long want, int finding) {
    }

    RefusalBounds(Sayings sayings) {
        super(sayings);
    }

    @Override
    void all() {
        orderOfRefusals();
        nothingIsChanged("They change nothing (FINDINGS but count() 8).", 0);
        nothingIsChanged("Refusals, the first that fits, in the order told at each act", 3);
        nothingIsChangedInAnEmptyOne();
    }

    private void orderOfRefusals() {
        says("BAD -2 (a number not as told, no such thing), NULL, NOT -3 (as told), FULL -4, other FINDINGS.");
        MarkedByNext x = full(0);
        due(2, "type: BAD ahead of FULL, text", x.type(2, 'c'), BAD);
        due(2, "type: BAD ahead of FULL, byte", x.type(0, 256), BAD);
        due(2, "type: FULL", x.type(0, 'c'), FULL);
        due(9, "change: BAD ahead of FULL", x.change(30, 0, 1), BAD);
        due(9, "change: FULL", x.change(29, 0, 1), FULL);
        due(25, "seen: BAD ahead of FULL", x.seen(0, 8, 0, 0), BAD);
        due(25, "seen: FULL", x.seen(0, 7, 0, 0), FULL);
        due(33, "sheet: BAD ahead of SIZE, SHEET", x.sheet(-1, 0, -1), BAD);
        due(33, "sheet: BAD ahead of SIZE, FORM", x.sheet(0, -1, -1), BAD);
        due(35, "put: BAD ahead of NULL", x.put(3, 3, 0, 0), BAD);
        due(35, "put: NULL ahead of INDEX", x.put(3, 0, -1, 0), NULL);
        due(35, "put: CAST ahead of INDEX", x.put(0, 1, -1, 0), CAST);
        due(35, "put: INDEX", x.put(0, 0, -1, 0), INDEX);
        due(37, "copy: BAD ahead of NULL", x.copy(3, 0, 4, 0, 0), BAD);
        due(37, "copy: NULL ahead of INDEX", x.copy(3, -1, 0, 0, 0), NULL);
        due(37, "copy: STORE ahead of INDEX", x.copy(0, -1, 1, 0, 0), STORE);
        due(38, "write: BAD ahead of NULL, BOY", x.write(8, 3), BAD);
        due(38, "write: NULL", x.write(7, 3), NULL);
        MarkedByNext y = new MarkedByNext();
        due(4, "undo: BAD", y.undo(2), BAD);
        due(4, "undo: NOT", y.undo(0), NOT);
        due(38, "write: BAD ahead of NULL, no BOYS", y.write(0, 0), BAD);
    }

    /** All that there may be: full texts, 8 CHANGES, 8 SEEN, three SHEETS, one LOST; and, if it is not 0, a FINDING. */
    private static MarkedByNext full(int finding) {
        MarkedByNext x = school(EIGHT_BOYS, SIXTEEN_SEATS);
        for (int n = 0; n < 8; n++) {
            x.change(3 * n, n, 15 - n);
        }
        for (int n = 0; n < 8; n++) {
            x.seen(3 * n + 1, n, n % 3, x.knows(3 * n + 1, n, n % 3));
        }
        x.masters(11);
        fillSheet(x, 0, 0, 5, 1, 2, -7);
        fillSheet(x, 1, 1, 300, 2);
        fillSheet(x, 2, 2, 70000, 29, 0, 15);
        if (finding == 3) {
            x.put(0, 1, 0, 0);
        }
        return x;
    }

    private static List<Refused> refusals() {
        List<Refused> all = new ArrayList<>();
        bad(all, 2, "type(-1, 99)", x -> x.type(-1, 99));
        bad(all, 2, "type(0, 256)", x -> x.type(0, 256));
        bad(all, 2, "type(1, -1)", x -> x.type(1, -1));
        all.add(new Refused(2, "type(0, 59)", x -> x.type(0, 59), FULL, 0));
        all.add(new Refused(2, "type(1, 46)", x -> x.type(1, 46), FULL, 0));
        bad(all, 3, "wipe(2)", x -> x.wipe(2));
        bad(all, 4, "undo(2)", x -> x.undo(2));
        bad(all, 5, "fault(2)", x -> x.fault(2));
        bad(all, 6, "boy(8, 0)", x -> x.boy(8, 0));
        bad(all, 7, "seat(16, 0)", x -> x.seat(16, 0));
        bad(all, 8, "masters(0)", x -> x.masters(0));
        bad(all, 8, "masters(31)", x -> x.masters(31));
        bad(all, 9, "change(30, 0, 1)", x -> x.change(30, 0, 1));
        bad(all, 9, "change(0, 1, 1)", x -> x.change(0, 1, 1));
        all.add(new Refused(9, "change(0, 0, 1)", x -> x.change(0, 0, 1), FULL, 0));
        bad(all, 11, "read(4)", x -> x.read(4));
        all.add(new Refused(11, "read(3)", x -> x.read(3), NULL, 1));
        bad(all, 12, "at(30, 0, 0)", x -> x.at(30, 0, 0));
        bad(all, 13, "knows(0, 0, 3)", x -> x.knows(0, 0, 3));
        bad(all, 14, "sits(0, 16)", x -> x.sits(0, 16));
        bad(all, 15, "ghost(16)", x -> x.ghost(16));
        bad(all, 16, "master(3)", x -> x.master(3));
        bad(all, 20, "sit(8, 0)", x -> x.sit(8, 0));
        bad(all, 21, "trade(30, 0)", x -> x.trade(30, 0));
        bad(all, 22, "rush(2)", x -> x.rush(2));
        bad(all, 23, "table(3)", x -> x.table(3));
        bad(all, 24, "spare(2)", x -> x.spare(2));
        bad(all, 25, "seen(0, 0, 0, 31)", x -> x.seen(0, 0, 0, 31));
        all.add(new Refused(25, "seen(0, 0, 0, 30)", x -> x.seen(0, 0, 0, 30), FULL, 0));
        bad(all, 28, "sort(8)", x -> x.sort(8));
        bad(all, 29, "first(0, 3)", x -> x.first(0, 3));
        bad(all, 30, "ask(8, 0)", x -> x.ask(8, 0));
        all.add(new Refused(31, "luck(17, 0, 0)", x -> x.luck(17, 0, 0), LONG_BAD, 0));
        bad(all, 32, "years(1, 9, 0)", x -> x.years(1, 9, 0));
        refusalsOfSheets(all);
        return all;
    }

    private static void refusalsOfSheets(List<Refused> all) {
        bad(all, 33, "sheet(4, 0, 1)", x -> x.sheet(4, 0, 1));
        bad(all, 33, "sheet(0, 3, 1)", x -> x.sheet(0, 3, 1));
        bad(all, 33, "sheet(0, 0, 61)", x -> x.sheet(0, 0, 61));
        all.add(new Refused(33, "sheet(0, 0, -1)", x -> x.sheet(0, 0, -1), SIZE, 5));
        all.add(new Refused(33, "sheet(3, 0, -1)", x -> x.sheet(3, 0, -1), SIZE, 5));
        bad(all, 34, "lose(4)", x -> x.lose(4));
        all.add(new Refused(34, "lose(3)", x -> x.lose(3), NULL, 1));
        bad(all, 35, "put(0, 3, 0, 9)", x -> x.put(0, 3, 0, 9));
        all.add(new Refused(35, "put(3, 0, 0, 9)", x -> x.put(3, 0, 0, 9), NULL, 1));
        all.add(new Refused(35, "put(0, 2, 0, 9)", x -> x.put(0, 2, 0, 9), CAST, 3));
        all.add(new Refused(35, "put(0, 0, 4, 9)", x -> x.put(0, 0, 4, 9), INDEX, 2));
        all.add(new Refused(36, "get(0, 3, 0)", x -> x.get(0, 3, 0), LEAST, 0));
        all.add(new Refused(36, "get(3, 0, 0)", x -> x.get(3, 0, 0), LEAST, 1));
        all.add(new Refused(36, "get(0, 2, 0)", x -> x.get(0, 2, 0), LEAST, 3));
        all.add(new Refused(36, "get(0, 0, 4)", x -> x.get(0, 0, 4), LEAST, 2));
        bad(all, 37, "copy(0, 0, 4, 0, 1)", x -> x.copy(0, 0, 4, 0, 1));
        all.add(new Refused(37, "copy(0, 0, 3, 0, 1)", x -> x.copy(0, 0, 3, 0, 1), NULL, 1));
        all.add(new Refused(37, "copy(0, 0, 1, 0, 1)", x -> x.copy(0, 0, 1, 0, 1), STORE, 4));
        all.add(new Refused(37, "copy(0, 0, 0, 2, 3)", x -> x.copy(0, 0, 0, 2, 3), INDEX, 2));
        all.add(new Refused(37, "copy(0, 2, 0, 0, 3)", x -> x.copy(0, 2, 0, 0, 3), INDEX, 2));
        bad(all, 38, "write(8, 0)", x -> x.write(8, 0));
        all.add(new Refused(38, "write(0, 3)", x -> x.write(0, 3), NULL, 1));
        bad(all, 39, "count(9)", x -> x.count(9));
    }

    private static void bad(List<Refused> all, int promise, String call, ToLongFunction<MarkedByNext> answer) {
        all.add(new Refused(promise, call, answer, BAD, 0));
    }

    /** Of two schools told alike one is asked for what it refuses; then both must answer alike, whatever is asked. */
    private void nothingIsChanged(String words, int finding) {
        says(words);
        List<Long> want = trace(full(finding));
        for (Refused refused : refusals()) {
            MarkedByNext x = full(finding);
            due(refused.promise(), refused.call(), refused.answer().applyAsLong(x), refused.want());
            int latest = refused.finding() == 0 ? finding : refused.finding();
            due(refused.promise(), "count(8) behind " + refused.call(), x.count(8), latest);
            List<Long> got = trace(x);
            due(refused.promise(), "as many answers behind " + refused.call(), got.size(), want.size());
            for (int i = 0; i < Math.min(got.size(), want.size()); i++) {
                due(refused.promise(), "answer " + i + " behind " + refused.call(), got.get(i), want.get(i));
            }
        }
    }

    /** All that can be known of the full school, at last by taking it apart. */
    private static List<Long> trace(MarkedByNext x) {
        List<Long> all = new ArrayList<>();
        for (int what = 0; what <= 7; what++) {
            all.add((long) x.count(what));
        }
        all.add(x.digest());
        all.add((long) x.masters(30));
        int[][] items = {{0, 0, 4}, {1, 1, 2}, {2, 2, 4}};
        for (int[] row : items) {
            for (int i = 0; i < row[2]; i++) {
                all.add((long) x.get(row[0], row[1], i));
            }
        }
        for (int s = 0; s <= 3; s++) {
            all.add((long) x.lose(s));
        }
        for (int n = 0; n < 9; n++) {
            all.add((long) x.back());
            all.add(x.digest());
        }
        all.add((long) x.forget());
        all.add((long) x.undo(0));
        all.add((long) x.undo(1));
        all.add(x.digest());
        return all;
    }

    private void nothingIsChangedInAnEmptyOne() {
        says("NOT: there is none.");
        MarkedByNext x = new MarkedByNext();
        long before = x.digest();
        due(10, "back", x.back(), NOT);
        due(4, "undo(0)", x.undo(0), NOT);
        due(4, "undo(1)", x.undo(1), NOT);
        due(39, "no FINDING", x.count(8), 0);
        due(40, "as it was", x.digest(), before);
        due(9, "then a CHANGE", x.change(0, 0, 1), 1);
        due(2, "then a byte", x.type(0, 'c'), 1);
        due(2, "then a byte", x.type(1, 'a'), 1);
    }
}
