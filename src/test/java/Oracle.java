import java.util.ArrayList;
import java.util.HashMap;
import java.util.HashSet;
import java.util.List;
import java.util.Map;
import java.util.Set;
import java.util.function.ToIntFunction;
import java.util.regex.Matcher;
import java.util.regex.Pattern;
import java.math.BigInteger;

/**
 * The document once more, as slowly and as differently as may be: texts are Strings matched by patterns, SHEETS
 * are Java's own rows (whose exceptions are the FINDINGS), LUCK goes by whole numbers without an end, and nothing
 * is kept from one call to the next but what the document names, and what each text was last read as (to match them
 * anew for every SEAT of every year tried took most of the time).
 */
final class Oracle {
    static final int NONE = -1, BAD = -2, NOT = -3, FULL = -4;

    record Boy(char sort, int[] first) { }

    record Change(int day, int one, int other) { }

    record Sight(int day, int boy, int subject, int much) { }

    /** What stands behind one DAY. */
    static final class Evening {
        Map<Integer, Integer> boyIn = new HashMap<>();
        int[][] knows;
        int[] marks;
        int[] gain;
        int[] ghost;
    }

    private final String[] text = {"", ""};
    private List<Change> changes = new ArrayList<>();
    private List<Sight> sights = new ArrayList<>();
    private final Object[] sheet = new Object[4];
    private int masters = 12;
    private int finding = 0;

    // ---- texts

    private static final Pattern BOYS = Pattern.compile("([cdb][0-9]{3}(;[cdb][0-9]{3}){0,8})?");
    private static final Pattern BENCHES = Pattern.compile("([a-h.]{1,4}(;[a-h.]{1,4}){0,4})?");

    private static int faultOf(String s, boolean boys) {
        Pattern p = boys ? BOYS : BENCHES;
        for (int n = 1; n <= s.length(); n++) {
            String head = s.substring(0, n);
            Matcher m = p.matcher(head);
            boolean goesOn = m.matches() || m.hitEnd();
            long parts = head.chars().filter(ch -> ch == ';').count();
            char last = head.charAt(n - 1);
            if (!goesOn || last != ';' && parts >= (boys ? 8 : 4)) {
                return n - 1;
            }
            if (!boys && last != '.' && last != ';' && head.indexOf(last) < n - 1) {
                return n - 1;
            }
        }
        boolean ended = s.isEmpty() || !s.endsWith(";") && p.matcher(s).matches();
        return ended ? NONE : s.length();
    }

    private final String[] lastRead = {"", ""};
    private List<Boy> boysRead = List.of();
    private String[] benchesRead = {};

    private List<Boy> boys() {
        if (!lastRead[0].equals(text[0])) {
            lastRead[0] = text[0];
            boysRead = readBoys(text[0]);
        }
        return new ArrayList<>(boysRead);
    }

    private String[] benches() {
        if (!lastRead[1].equals(text[1])) {
            lastRead[1] = text[1];
            benchesRead = readBenches(text[1]);
        }
        return benchesRead;
    }

    private static List<Boy> readBoys(String s) {
        List<Boy> all = new ArrayList<>();
        if (s.isEmpty() || faultOf(s, true) != NONE) {
            return all;
        }
        for (String one : s.split(";")) {
            all.add(new Boy(one.charAt(0), new int[] {one.charAt(1) - 48, one.charAt(2) - 48, one.charAt(3) - 48}));
        }
        return all;
    }

    private static String[] readBenches(String s) {
        return s.isEmpty() || faultOf(s, false) != NONE ? new String[0] : s.split(";");
    }

    private int seats() {
        return String.join("", benches()).length();
    }

    private List<Integer> benchOfSeat() {
        List<Integer> all = new ArrayList<>();
        String[] b = benches();
        for (int i = 0; i < b.length; i++) {
            for (int k = 0; k < b[i].length(); k++) {
                all.add(i);
            }
        }
        return all;
    }

    private int toldIn(int seat) {
        char ch = String.join("", benches()).charAt(seat);
        return ch == '.' || ch - 'a' >= boys().size() ? NONE : ch - 'a';
    }

    private int toldSeat(int boy) {
        return String.join("", benches()).indexOf('a' + boy);
    }

    private Map<Integer, Integer> toldSeats() {
        Map<Integer, Integer> map = new HashMap<>();
        for (int s = 0; s < seats(); s++) {
            if (toldIn(s) != NONE) {
                map.put(s, toldIn(s));
            }
        }
        return map;
    }

    // ---- days

    private static void swap(Map<Integer, Integer> boyIn, int one, int other) {
        Integer a = boyIn.remove(one);
        Integer b = one == other ? null : boyIn.remove(other);
        if (a != null) {
            boyIn.put(other, a);
        }
        if (b != null) {
            boyIn.put(one, b);
        }
    }

    private List<Integer> beside(Evening e, int seat) {
        List<Integer> bench = benchCache;
        List<Integer> all = new ArrayList<>();
        for (int s : new int[] {seat - 1, seat + 1}) {
            if (s >= 0 && s < bench.size() && bench.get(s).equals(bench.get(seat)) && e.boyIn.containsKey(s)) {
                all.add(e.boyIn.get(s));
            }
        }
        return all;
    }

    private List<Integer> benchCache;

    private List<Evening> live(List<Boy> boys, Map<Integer, Integer> start, List<Change> done, int[] order) {
        benchCache = benchOfSeat();
        int seats = benchCache.size();
        List<Evening> all = new ArrayList<>();
        Evening e = new Evening();
        e.boyIn.putAll(start);
        e.knows = new int[boys.size()][];
        for (int b = 0; b < boys.size(); b++) {
            e.knows[b] = boys.get(b).first().clone();
        }
        e.marks = new int[boys.size()];
        e.ghost = new int[seats];
        for (int day = 0; day < 30; day++) {
            Evening n = new Evening();
            n.boyIn.putAll(e.boyIn);
            n.knows = new int[boys.size()][];
            for (int b = 0; b < boys.size(); b++) {
                n.knows[b] = e.knows[b].clone();
            }
            n.marks = e.marks.clone();
            n.ghost = e.ghost.clone();
            n.gain = new int[boys.size()];
            for (Change c : done) {
                if (c.day() == day && c.one() < seats && c.other() < seats) {
                    swap(n.boyIn, c.one(), c.other());
                }
            }
            int subject = order[day % 3];
            for (Map.Entry<Integer, Integer> x : n.boyIn.entrySet()) {
                int boy = x.getValue();
                List<Integer> near = beside(n, x.getKey());
                int mine = e.knows[boy][subject];
                int[][] before = e.knows;
                int more = (int) near.stream().filter(o -> before[o][subject] > mine).count();
                int gain = switch (boys.get(boy).sort()) {
                    case 'd' -> more;
                    case 'c' -> near.isEmpty() || more > 0 ? 1 : 0;
                    default -> more > 0 ? 2 : 0;
                };
                n.gain[boy] = mine + gain > 30 ? 30 - mine : gain;
                n.knows[boy][subject] = mine + n.gain[boy];
            }
            for (int s = 0; s < seats; s++) {
                int sum = beside(n, s).stream().mapToInt(o -> n.gain[o]).sum();
                Integer boy = n.boyIn.get(s);
                if (boy == null) {
                    n.ghost[s] += sum;
                } else {
                    n.marks[boy] += boys.get(boy).sort() == 'b' ? 2 * sum : sum;
                }
            }
            all.add(n);
            e = n;
        }
        return all;
    }

    private static final int[] PLAIN = {0, 1, 2};

    private List<Evening> told() {
        return live(boys(), toldSeats(), changes, PLAIN);
    }

    private static int bestOf(List<Evening> year) {
        int[] m = year.get(29).marks;
        int best = NONE;
        for (int b = m.length - 1; b >= 0; b--) {
            if (best == NONE || m[b] >= m[best]) {
                best = b;
            }
        }
        return best;
    }

    private static int formOf(List<Evening> year) {
        int sum = 0;
        for (int[] row : year.get(29).knows) {
            sum += row[0] + row[1] + row[2];
        }
        return sum;
    }

    private static Set<Integer> idleOf(List<Evening> year) {
        Set<Integer> all = new HashSet<>();
        for (int b = 0; b < year.get(0).gain.length; b++) {
            int boy = b;
            if (year.stream().allMatch(e -> e.gain[boy] == 0)) {
                all.add(b);
            }
        }
        return all;
    }

    private static int marksOf(List<Evening> year) {
        int sum = 0;
        for (int m : year.get(29).marks) {
            sum += m;
        }
        return sum;
    }

    private boolean comesOut(List<Evening> year) {
        for (Sight s : sights) {
            if (s.boy() >= boys().size() || year.get(s.day()).knows[s.boy()][s.subject()] != s.much()) {
                return false;
            }
        }
        return true;
    }

    // ---- the face

    int type(int t, int b) {
        if (t < 0 || t > 1 || b < 0 || b > 255) {
            return BAD;
        }
        if (text[t].length() == (t == 0 ? 39 : 19)) {
            return FULL;
        }
        text[t] += (char) b;
        return text[t].length();
    }

    int wipe(int t) {
        if (t < 0 || t > 1) {
            return BAD;
        }
        int n = text[t].length();
        text[t] = "";
        return n;
    }

    int undo(int t) {
        if (t < 0 || t > 1) {
            return BAD;
        }
        if (text[t].isEmpty()) {
            return NOT;
        }
        text[t] = text[t].substring(0, text[t].length() - 1);
        return text[t].length();
    }

    int fault(int t) {
        return t < 0 || t > 1 ? BAD : faultOf(text[t], t == 0);
    }

    private boolean no(int x, int limit) {
        return x < 0 || x >= limit;
    }

    int boy(int b, int what) {
        if (no(b, boys().size()) || no(what, 4)) {
            return BAD;
        }
        return what == 0 ? "cdb".indexOf(boys().get(b).sort()) : boys().get(b).first()[what - 1];
    }

    int seat(int s, int what) {
        if (no(s, seats()) || no(what, 2)) {
            return BAD;
        }
        return what == 0 ? toldIn(s) : benchOfSeat().get(s);
    }

    int masters(int v) {
        if (v < 1 || v > 30) {
            return BAD;
        }
        int was = masters;
        masters = v;
        return was;
    }

    private boolean mayBe(int day, int one, int other) {
        return !no(day, 30) && !no(one, 16) && !no(other, 16) && one != other;
    }

    int change(int day, int one, int other) {
        if (!mayBe(day, one, other)) {
            return BAD;
        }
        if (changes.size() == 8) {
            return FULL;
        }
        changes.add(new Change(day, one, other));
        return changes.size();
    }

    int back() {
        if (changes.isEmpty()) {
            return NOT;
        }
        changes.remove(changes.size() - 1);
        return changes.size();
    }

    int read(int s) {
        if (no(s, 4)) {
            return BAD;
        }
        if (sheet[s] == null) {
            return find(1);
        }
        int n = java.lang.reflect.Array.getLength(sheet[s]);
        int came = 0;
        for (int k = 0; k < n / 3; k++) {
            int day = java.lang.reflect.Array.getInt(sheet[s], 3 * k);
            int one = java.lang.reflect.Array.getInt(sheet[s], 3 * k + 1);
            int other = java.lang.reflect.Array.getInt(sheet[s], 3 * k + 2);
            if (!mayBe(day, one, other) || change(day, one, other) == FULL) {
                break;
            }
            came++;
        }
        return came;
    }

    int at(int day, int b, int what) {
        if (no(day, 30) || no(b, boys().size()) || no(what, 3)) {
            return BAD;
        }
        Evening e = told().get(day);
        if (what == 0) {
            return e.boyIn.entrySet().stream().filter(x -> x.getValue() == b).map(Map.Entry::getKey).findFirst().orElse(NONE);
        }
        return what == 1 ? e.marks[b] : e.gain[b];
    }

    int knows(int day, int b, int subject) {
        return no(day, 30) || no(b, boys().size()) || no(subject, 3) ? BAD : told().get(day).knows[b][subject];
    }

    int sits(int day, int s) {
        return no(day, 30) || no(s, seats()) ? BAD : told().get(day).boyIn.getOrDefault(s, NONE);
    }

    int ghost(int s) {
        return no(s, seats()) ? BAD : told().get(29).ghost[s];
    }

    int master(int what) {
        if (no(what, 3)) {
            return BAD;
        }
        List<Evening> year = told();
        for (int day = 0; day < 30; day++) {
            for (int b = 0; b < boys().size(); b++) {
                for (int s = 0; s < 3; s++) {
                    if (year.get(day).knows[b][s] >= masters) {
                        return new int[] {day, b, s}[what];
                    }
                }
            }
        }
        return NONE;
    }

    int best() {
        return bestOf(told());
    }

    int form() {
        return formOf(told());
    }

    private static int bits(Iterable<Integer> set) {
        int bits = 0;
        for (int i : set) {
            bits |= 1 << i;
        }
        return bits;
    }

    int idle() {
        return bits(idleOf(told()));
    }

    private List<Evening> liveSwapped(int one, int other) {
        Map<Integer, Integer> start = toldSeats();
        swap(start, one, other);
        return live(boys(), start, changes, PLAIN);
    }

    int sit(int b, int what) {
        if (no(b, boys().size()) || no(what, 2)) {
            return BAD;
        }
        if (toldSeat(b) < 0) {
            return NONE;
        }
        int which = NONE;
        int most = NONE;
        for (int s = seats() - 1; s >= 0; s--) {
            int m = (s == toldSeat(b) ? told() : liveSwapped(s, toldSeat(b))).get(29).marks[b];
            if (m >= most) {
                most = m;
                which = s;
            }
        }
        return what == 0 ? which : most;
    }

    int trade(int day, int what) {
        if (no(day, 30) || no(what, 3)) {
            return BAD;
        }
        int[] row = {NONE, NONE, NONE};
        for (int other = seats() - 1; other >= 0; other--) {
            for (int one = other - 1; one >= 0; one--) {
                List<Change> more = new ArrayList<>(changes);
                more.add(new Change(day, one, other));
                int f = formOf(live(boys(), toldSeats(), more, PLAIN));
                boolean less = one < row[0] || one == row[0] && other < row[1];
                if (f > row[2] || f == row[2] && less) {
                    row = new int[] {one, other, f};
                }
            }
        }
        return row[what];
    }

    int rush(int what) {
        if (no(what, 2)) {
            return BAD;
        }
        int[] now = told().get(29).marks;
        for (int a = 0; a < now.length; a++) {
            for (int b = a + 1; b < now.length; b++) {
                if (toldSeat(a) >= 0 && toldSeat(b) >= 0) {
                    int[] then = liveSwapped(toldSeat(a), toldSeat(b)).get(29).marks;
                    if (then[a] > now[a] && then[b] > now[b]) {
                        return what == 0 ? a : b;
                    }
                }
            }
        }
        return NONE;
    }

    int table(int i) {
        if (i < -1 || i > 2) {
            return BAD;
        }
        int most = -1;
        int[] row = PLAIN;
        for (int a = 0; a < 3; a++) {
            for (int b = 0; b < 3; b++) {
                if (a != b) {
                    int[] order = {a, b, 3 - a - b};
                    int f = formOf(live(boys(), toldSeats(), changes, order));
                    if (f > most) {
                        most = f;
                        row = order;
                    }
                }
            }
        }
        return i < 0 ? most : row[i];
    }

    int spare(int i) {
        if (i < -1 || i > 1) {
            return BAD;
        }
        List<List<Integer>> rows = new ArrayList<>();
        rows.add(List.of());
        for (int a = 0; a < changes.size(); a++) {
            rows.add(List.of(a));
        }
        for (int a = 0; a < changes.size(); a++) {
            for (int b = a + 1; b < changes.size(); b++) {
                rows.add(List.of(a, b));
            }
        }
        for (List<Integer> row : rows) {
            Set<Integer> lazy = idleOf(live(boys(), toldSeats(), without(row), PLAIN));
            lazy.retainAll(toldSeats().values());
            if (lazy.isEmpty()) {
                return i < 0 ? row.size() : i < row.size() ? row.get(i) : NONE;
            }
        }
        return NONE;
    }

    private List<Change> without(List<Integer> row) {
        List<Change> rest = new ArrayList<>();
        for (int k = 0; k < changes.size(); k++) {
            if (!row.contains(k)) {
                rest.add(changes.get(k));
            }
        }
        return rest;
    }

    int seen(int day, int b, int subject, int much) {
        if (no(day, 30) || no(b, 8) || no(subject, 3) || no(much, 31)) {
            return BAD;
        }
        if (sights.size() == 8) {
            return FULL;
        }
        sights.add(new Sight(day, b, subject, much));
        return sights.size();
    }

    int forget() {
        int n = sights.size();
        sights = new ArrayList<>();
        return n;
    }

    private int bitsWhere(int n, ToIntFunction<Integer> is) {
        int bits = 0;
        for (int k = 0; k < n; k++) {
            bits |= is.applyAsInt(k) << k;
        }
        return bits;
    }

    int never() {
        return bitsWhere(changes.size(),
                k -> comesOut(live(boys(), toldSeats(), without(List.of(k)), PLAIN)) ? 1 : 0);
    }

    private List<Evening> liveAs(int b, char sort, int[] first) {
        List<Boy> all = boys();
        all.set(b, new Boy(sort, first));
        return live(all, toldSeats(), changes, PLAIN);
    }

    int sort(int b) {
        if (no(b, boys().size())) {
            return BAD;
        }
        return bitsWhere(3, k -> comesOut(liveAs(b, "cdb".charAt(k), boys().get(b).first())) ? 1 : 0);
    }

    private List<Evening> liveKnowing(int b, int subject, int v) {
        int[] first = boys().get(b).first().clone();
        first[subject] = v;
        return liveAs(b, boys().get(b).sort(), first);
    }

    int first(int b, int subject) {
        if (no(b, boys().size()) || no(subject, 3)) {
            return BAD;
        }
        return bitsWhere(10, v -> comesOut(liveKnowing(b, subject, v)) ? 1 : 0);
    }

    int ask(int b, int subject) {
        if (no(b, boys().size()) || no(subject, 3)) {
            return BAD;
        }
        List<List<Evening>> left = new ArrayList<>();
        for (int v = 0; v < 10; v++) {
            List<Evening> year = liveKnowing(b, subject, v);
            if (comesOut(year)) {
                left.add(year);
            }
        }
        int best = 0;
        int least = 99;
        for (int day = 0; day < 30; day++) {
            Map<Integer, Integer> sizes = new HashMap<>();
            int most = 0;
            for (List<Evening> year : left) {
                most = Math.max(most, sizes.merge(year.get(day).knows[b][subject], 1, Integer::sum));
            }
            if (most < least) {
                least = most;
                best = day;
            }
        }
        return best;
    }

    long luck(int c, int b, int what) {
        if (no(c, 17) || no(b, boys().size()) || no(what, 2)) {
            return Long.MIN_VALUE + 2;
        }
        BigInteger above = BigInteger.ZERO;
        for (int m = 0; m < 1 << changes.size(); m++) {
            List<Change> done = new ArrayList<>();
            BigInteger weight = BigInteger.ONE;
            for (int k = 0; k < changes.size(); k++) {
                boolean is = (m >> k) % 2 == 1;
                weight = weight.multiply(BigInteger.valueOf(is ? c : 16 - c));
                if (is) {
                    done.add(changes.get(k));
                }
            }
            if (weight.signum() > 0 && bestOf(live(boys(), toldSeats(), done, PLAIN)) == b) {
                above = above.add(weight);
            }
        }
        BigInteger below = BigInteger.valueOf(16).pow(changes.size());
        BigInteger g = above.gcd(below);
        return (what == 0 ? above : below).divide(g).longValueExact();
    }

    int years(int seed, int n, int what) {
        if (n < 0 || n > 8 || no(what, 2)) {
            return BAD;
        }
        List<Change> drawn = new ArrayList<>();
        long state = seed & 0xffffffffL;
        int[] row = new int[3];
        for (int k = 0; k < n && seats() > 0; k++) {
            for (int p = 0; p < 3; p++) {
                state = (state * 1103515245L + 12345L) & 0xffffffffL;
                row[p] = (int) (state >> 16) % (p == 0 ? 30 : seats());
            }
            if (row[1] != row[2]) {
                drawn.add(new Change(row[0], row[1], row[2]));
            }
        }
        List<Evening> year = live(boys(), toldSeats(), drawn, PLAIN);
        return what == 0 ? formOf(year) : marksOf(year);
    }

    private int find(int number) {
        finding = number;
        return -10 - number;
    }

    int sheet(int s, int form, int n) {
        if (no(s, 4) || no(form, 3) || n > 60) {
            return BAD;
        }
        try {
            sheet[s] = form == 0 ? new byte[n] : form == 1 ? new short[n] : new int[n];
            return n;
        } catch (NegativeArraySizeException e) {
            return find(5);
        }
    }

    int lose(int s) {
        if (no(s, 4)) {
            return BAD;
        }
        if (sheet[s] == null) {
            return find(1);
        }
        int n = java.lang.reflect.Array.getLength(sheet[s]);
        sheet[s] = null;
        return n;
    }

    private int findIn(int s, int form, int i) {
        if (sheet[s] == null) {
            return 1;
        }
        try {
            if (form == 0) {
                return ((byte[]) sheet[s])[i] * 0;
            }
            return form == 1 ? ((short[]) sheet[s])[i] * 0 : ((int[]) sheet[s])[i] * 0;
        } catch (ClassCastException e) {
            return 3;
        } catch (ArrayIndexOutOfBoundsException e) {
            return 2;
        }
    }

    private void store(int s, int i, int v) {
        if (sheet[s] instanceof byte[] r) {
            r[i] = (byte) v;
        } else if (sheet[s] instanceof short[] r) {
            r[i] = (short) v;
        } else {
            ((int[]) sheet[s])[i] = v;
        }
    }

    int put(int s, int form, int i, int v) {
        if (no(s, 4) || no(form, 3)) {
            return BAD;
        }
        int f = findIn(s, form, i);
        if (f != 0) {
            return find(f);
        }
        store(s, i, v);
        return 1;
    }

    int get(int s, int form, int i) {
        if (no(s, 4) || no(form, 3)) {
            return Integer.MIN_VALUE;
        }
        int f = findIn(s, form, i);
        if (f != 0) {
            find(f);
            return Integer.MIN_VALUE;
        }
        return java.lang.reflect.Array.getInt(sheet[s], i);
    }

    int copy(int s, int i, int t, int j, int n) {
        if (no(s, 4) || no(t, 4)) {
            return BAD;
        }
        try {
            if (sheet[s] == null || sheet[t] == null) {
                return find(1);
            }
            System.arraycopy(sheet[s], i, sheet[t], j, n);
            return 1;
        } catch (ArrayStoreException e) {
            return find(4);
        } catch (ArrayIndexOutOfBoundsException e) {
            return find(2);
        }
    }

    int write(int b, int s) {
        if (no(b, boys().size()) || no(s, 4)) {
            return BAD;
        }
        if (sheet[s] == null) {
            return find(1);
        }
        List<Evening> year = told();
        int n = Math.min(30, java.lang.reflect.Array.getLength(sheet[s]));
        for (int day = 0; day < n; day++) {
            store(s, day, year.get(day).marks[b]);
        }
        return n;
    }

    int count(int what) {
        return switch (what) {
            case 0 -> boys().size();
            case 1 -> seats();
            case 2, 3 -> text[what - 2].length();
            case 4 -> changes.size();
            case 5 -> marksOf(told());
            case 6 -> java.util.Arrays.stream(told().get(29).ghost).sum();
            case 7 -> sights.size();
            case 8 -> finding;
            default -> BAD;
        };
    }

    long digest() {
        List<Long> all = new ArrayList<>();
        for (int w = 0; w < 8; w++) {
            all.add((long) count(w));
        }
        all.add((long) fault(0));
        all.add((long) fault(1));
        for (int s = 0; s < seats(); s++) {
            for (int v : new int[] {seat(s, 0), seat(s, 1), sits(6, s), sits(29, s), ghost(s)}) {
                all.add((long) v);
            }
        }
        for (int b = 0; b < boys().size(); b++) {
            for (int w = 0; w < 4; w++) {
                all.add((long) boy(b, w));
            }
            for (int day : new int[] {0, 8, 29}) {
                for (int w = 0; w < 3; w++) {
                    all.add((long) at(day, b, w));
                }
            }
            for (int s = 0; s < 3; s++) {
                for (int v : new int[] {knows(8, b, s), knows(29, b, s), first(b, s), ask(b, s)}) {
                    all.add((long) v);
                }
            }
            for (long v : new long[] {sit(b, 0), sit(b, 1), sort(b), luck(5, b, 0), luck(5, b, 1)}) {
                all.add(v);
            }
        }
        for (int v : new int[] {master(0), master(1), master(2), best(), form(), idle(), trade(8, 0), trade(8, 1),
                trade(8, 2), rush(0), rush(1), table(-1), table(0), table(1), table(2), spare(-1), spare(0), never(),
                years(7, 6, 0), years(7, 6, 1)}) {
            all.add((long) v);
        }
        long h = 17;
        for (long v : all) {
            h = 31 * h + v;
        }
        return h;
    }
}
