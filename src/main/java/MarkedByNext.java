import java.util.Arrays;

/**
 * One is marked, at that school, by how the boy next one is getting on.
 *
 * All rows are made with the object and used again, because all calls of a run share one room.
 */
public final class MarkedByNext {
    public static final int NONE = -1, BAD = -2, NOT = -3, FULL = -4;

    private static final int BOYS = 8;
    private static final int BOY_BYTES = 39;
    private static final int BOY_LENGTH = 5;
    private static final int BENCHES = 4;
    private static final int BENCH_BYTES = 19;
    private static final int BENCH_SEATS = 4;
    private static final int SEATS = 16;
    private static final int SUBJECTS = 3;
    private static final int FIGURES = 10;
    private static final int KNOWN = BOYS * SUBJECTS;
    private static final int DAYS = 30;
    private static final int LAST_DAY = 29;
    private static final int CHANGES = 8;
    private static final int SEENS = 8;
    private static final int MOST_KNOWN = 30;
    private static final int SHEETS = 4;
    private static final int ITEMS = 60;
    private static final int SIXTEENTHS = 16;

    private static final int CLEVER = 0, DULL = 1, BULLY = 2, SORTS = 3;
    private static final int BYTES = 0, SHORTS = 1, INTS = 2;
    private static final int FOUND_NULL = 1, FOUND_INDEX = 2, FOUND_CAST = 3, FOUND_STORE = 4, FOUND_SIZE = 5;

    /** Of CHANGES, as bits: all of them are done. */
    private static final int ALL = -1;

    /** What the row of answers tells; SIT, TRADE and FIRST have a number for each thing asked about. */
    private static final int ABOUT_SIT = 0, ABOUT_TRADE = 100, ABOUT_RUSH = 200, ABOUT_TABLE = 300,
            ABOUT_SPARE = 400, ABOUT_FIRST = 500;

    private static final int[] ORDERS = {0, 1, 2, 0, 2, 1, 1, 0, 2, 1, 2, 0, 2, 0, 1, 2, 1, 0};

    private final Text boyText = new Text(BOY_BYTES);
    private final Text benchText = new Text(BENCH_BYTES);
    private final Roll roll = new Roll();
    private final Benches benches = new Benches();
    private final Changes changes = new Changes();
    private final Seens seens = new Seens();
    private final Sheet[] sheets = new Sheet[SHEETS];
    private final Year told = new Year();
    private final Year trial = new Year();
    private final Changes trialChanges = new Changes();
    private final Lots lots = new Lots();
    private final Tally tally = new Tally();
    private final int[] answers = new int[SUBJECTS + 1];
    private final int[] askRows = new int[FIGURES * DAYS];
    private final int[] askSizes = new int[MOST_KNOWN + 1];
    private int mastery = 12;
    private int finding = 0;
    private int answered = NONE;
    private boolean toldIsFresh = false;

    public MarkedByNext() {
        for (int s = 0; s < SHEETS; s++) {
            sheets[s] = new Sheet();
        }
    }

    // ---- boys, benches, changes

    public int type(int text, int b) {
        if (!within(text, 1) || !within(b, 255)) {
            return BAD;
        }
        Text t = textOf(text);
        if (!t.append(b)) {
            return FULL;
        }
        rereadText(text);
        return t.length;
    }

    public int wipe(int text) {
        if (!within(text, 1)) {
            return BAD;
        }
        Text t = textOf(text);
        int had = t.length;
        t.length = 0;
        rereadText(text);
        return had;
    }

    public int undo(int text) {
        if (!within(text, 1)) {
            return BAD;
        }
        Text t = textOf(text);
        if (t.length == 0) {
            return NOT;
        }
        t.length--;
        rereadText(text);
        return t.length;
    }

    public int fault(int text) {
        if (!within(text, 1)) {
            return BAD;
        }
        return text == 0 ? roll.faultPlace : benches.faultPlace;
    }

    public int boy(int boy, int what) {
        if (!isBoy(boy) || !within(what, SUBJECTS)) {
            return BAD;
        }
        return what == 0 ? roll.sorts[boy] : roll.firsts[boy * SUBJECTS + what - 1];
    }

    public int seat(int seat, int what) {
        if (!isSeat(seat) || !within(what, 1)) {
            return BAD;
        }
        return what == 0 ? benches.sitter(seat, roll.number) : benches.benchOf[seat];
    }

    public int masters(int v) {
        if (v < 1 || v > MOST_KNOWN) {
            return BAD;
        }
        int was = mastery;
        mastery = v;
        return was;
    }

    public int change(int day, int one, int other) {
        if (!isChange(day, one, other)) {
            return BAD;
        }
        if (changes.number >= CHANGES) {
            return FULL;
        }
        changes.append(day, one, other);
        forgetYear();
        return changes.number;
    }

    public int back() {
        if (changes.number == 0) {
            return NOT;
        }
        changes.number--;
        forgetYear();
        return changes.number;
    }

    public int read(int s) {
        if (!within(s, SHEETS - 1)) {
            return BAD;
        }
        Sheet sheet = sheets[s];
        if (sheet.isLost) {
            return found(FOUND_NULL);
        }
        int before = changes.number;
        int[] items = sheet.items;
        for (int i = 0; i + 2 < sheet.number && changes.number < CHANGES; i += 3) {
            if (!isChange(items[i], items[i + 1], items[i + 2])) {
                break;
            }
            changes.append(items[i], items[i + 1], items[i + 2]);
        }
        forgetYear();
        return changes.number - before;
    }

    // ---- days

    public int at(int day, int boy, int what) {
        if (!within(day, LAST_DAY) || !isBoy(boy) || !within(what, 2)) {
            return BAD;
        }
        Year year = yearAsTold();
        if (what == 0) {
            return year.seatOf(day, boy);
        }
        return what == 1 ? year.marksOf(day, boy) : year.gains[day * BOYS + boy];
    }

    public int knows(int day, int boy, int subject) {
        if (!within(day, LAST_DAY) || !isBoy(boy) || !within(subject, SUBJECTS - 1)) {
            return BAD;
        }
        return yearAsTold().knownBehind(day, boy, subject);
    }

    public int sits(int day, int seat) {
        if (!within(day, LAST_DAY) || !isSeat(seat)) {
            return BAD;
        }
        return yearAsTold().sitters[(day + 1) * SEATS + seat];
    }

    public int ghost(int seat) {
        if (!isSeat(seat)) {
            return BAD;
        }
        return yearAsTold().ghosts[seat];
    }

    public int master(int what) {
        if (!within(what, 2)) {
            return BAD;
        }
        int place = yearAsTold().firstPlaceOf(mastery);
        if (place < 0) {
            return NONE;
        }
        if (what == 0) {
            return place / KNOWN;
        }
        return what == 1 ? place % KNOWN / SUBJECTS : place % SUBJECTS;
    }

    public int best() {
        return yearAsTold().mostMarked();
    }

    public int form() {
        return yearAsTold().knownByAll();
    }

    public int idle() {
        return yearAsTold().idlers();
    }

    // ---- plans

    public int sit(int boy, int what) {
        if (!isBoy(boy) || !within(what, 1)) {
            return BAD;
        }
        int own = benches.seatTold(boy);
        if (own < 0) {
            return NONE;
        }
        if (isAsked(ABOUT_SIT + boy)) {
            findSit(boy, own);
        }
        return answers[what];
    }

    public int trade(int day, int what) {
        if (!within(day, LAST_DAY) || !within(what, 2)) {
            return BAD;
        }
        if (benches.number < 2) {
            return NONE;
        }
        if (isAsked(ABOUT_TRADE + day)) {
            findTrade(day);
        }
        return answers[what];
    }

    public int rush(int what) {
        if (!within(what, 1)) {
            return BAD;
        }
        if (isAsked(ABOUT_RUSH)) {
            findRush(yearAsTold());
        }
        return answers[what];
    }

    public int table(int i) {
        if (i != NONE && !within(i, SUBJECTS - 1)) {
            return BAD;
        }
        if (isAsked(ABOUT_TABLE)) {
            findTable();
        }
        return answers[i + 1];
    }

    public int spare(int i) {
        if (i != NONE && !within(i, 1)) {
            return BAD;
        }
        if (isAsked(ABOUT_SPARE)) {
            findSpare();
        }
        return answers[i + 1];
    }

    // ---- seen, luck, years

    public int seen(int day, int boy, int subject, int much) {
        if (!within(day, LAST_DAY) || !within(boy, BOYS - 1)
                || !within(subject, SUBJECTS - 1) || !within(much, MOST_KNOWN)) {
            return BAD;
        }
        if (!seens.append(day, boy, subject, much)) {
            return FULL;
        }
        answered = NONE;
        return seens.number;
    }

    public int forget() {
        int had = seens.number;
        seens.number = 0;
        answered = NONE;
        return had;
    }

    public int never() {
        int bits = 0;
        for (int i = 0; i < changes.number; i++) {
            trial.begin(roll, benches);
            trial.pass(changes, ALL ^ (1 << i));
            if (seens.agree(trial)) {
                bits |= 1 << i;
            }
        }
        return bits;
    }

    public int sort(int boy) {
        if (!isBoy(boy)) {
            return BAD;
        }
        int bits = 0;
        for (int kind = 0; kind < SORTS; kind++) {
            trial.begin(roll, benches);
            trial.sorts[boy] = kind;
            trial.pass(changes, ALL);
            if (seens.agree(trial)) {
                bits |= 1 << kind;
            }
        }
        return bits;
    }

    public int first(int boy, int subject) {
        if (!isBoy(boy) || !within(subject, SUBJECTS - 1)) {
            return BAD;
        }
        if (isAsked(ABOUT_FIRST + boy * SUBJECTS + subject)) {
            findFirsts(boy, subject);
        }
        return answers[0];
    }

    public int ask(int boy, int subject) {
        if (!isBoy(boy) || !within(subject, SUBJECTS - 1)) {
            return BAD;
        }
        if (isAsked(ABOUT_FIRST + boy * SUBJECTS + subject)) {
            findFirsts(boy, subject);
        }
        return answers[1];
    }

    public long luck(int c, int boy, int what) {
        if (!within(c, SIXTEENTHS) || !isBoy(boy) || !within(what, 1)) {
            return Long.MIN_VALUE - BAD;
        }
        if (!tally.isFresh) {
            tallyBests();
        }
        long above = tally.chanceOf(boy, c, changes.number);
        long below = power(SIXTEENTHS, changes.number);
        long both = commonDivisor(below, above);
        if (both == 0) {
            return what;
        }
        return what == 0 ? above / both : below / both;
    }

    public int years(int seed, int n, int what) {
        if (!within(n, CHANGES) || !within(what, 1)) {
            return BAD;
        }
        drawChanges(seed, n);
        trial.begin(roll, benches);
        trial.pass(trialChanges, ALL);
        return what == 0 ? trial.knownByAll() : trial.marksOfAll();
    }

    // ---- sheets

    public int sheet(int s, int form, int n) {
        if (!within(s, SHEETS - 1) || !within(form, INTS) || n > ITEMS) {
            return BAD;
        }
        if (n < 0) {
            return found(FOUND_SIZE);
        }
        sheets[s].renew(form, n);
        return n;
    }

    public int lose(int s) {
        if (!within(s, SHEETS - 1)) {
            return BAD;
        }
        Sheet sheet = sheets[s];
        if (sheet.isLost) {
            return found(FOUND_NULL);
        }
        sheet.isLost = true;
        return sheet.number;
    }

    public int put(int s, int form, int i, int v) {
        if (!within(s, SHEETS - 1) || !within(form, INTS)) {
            return BAD;
        }
        int wrong = sheets[s].wrongAt(form, i);
        if (wrong != 0) {
            return found(wrong);
        }
        sheets[s].store(i, v);
        return 1;
    }

    public int get(int s, int form, int i) {
        if (!within(s, SHEETS - 1) || !within(form, INTS)) {
            return Integer.MIN_VALUE;
        }
        int wrong = sheets[s].wrongAt(form, i);
        if (wrong != 0) {
            finding = wrong;
            return Integer.MIN_VALUE;
        }
        return sheets[s].items[i];
    }

    public int copy(int s, int i, int t, int j, int n) {
        if (!within(s, SHEETS - 1) || !within(t, SHEETS - 1)) {
            return BAD;
        }
        Sheet from = sheets[s];
        Sheet to = sheets[t];
        if (from.isLost || to.isLost) {
            return found(FOUND_NULL);
        }
        if (from.kind != to.kind) {
            return found(FOUND_STORE);
        }
        if (!from.has(i, n) || !to.has(j, n)) {
            return found(FOUND_INDEX);
        }
        System.arraycopy(from.items, i, to.items, j, n);
        return 1;
    }

    public int write(int boy, int s) {
        if (!isBoy(boy) || !within(s, SHEETS - 1)) {
            return BAD;
        }
        Sheet sheet = sheets[s];
        if (sheet.isLost) {
            return found(FOUND_NULL);
        }
        Year year = yearAsTold();
        int days = Math.min(sheet.number, DAYS);
        for (int day = 0; day < days; day++) {
            sheet.store(day, year.marksOf(day, boy));
        }
        return days;
    }

    public int count(int what) {
        switch (what) {
            case 0: return roll.number;
            case 1: return benches.number;
            case 2: return boyText.length;
            case 3: return benchText.length;
            case 4: return changes.number;
            case 5: return yearAsTold().marksOfAll();
            case 6: return yearAsTold().ghostsOfAll();
            case 7: return seens.number;
            case 8: return finding;
            default: return BAD;
        }
    }

    public long digest() {
        long h = 17;
        for (int what = 0; what <= 7; what++) {
            h = mix(h, count(what));
        }
        h = mix(mix(h, fault(0)), fault(1));
        h = mixSeats(h);
        for (int boy = 0; boy < roll.number; boy++) {
            h = mixDaysOf(h, boy);
            h = mixSubjectsOf(h, boy);
            h = mixChancesOf(h, boy);
        }
        for (int what = 0; what <= 2; what++) {
            h = mix(h, master(what));
        }
        h = mix(mix(mix(h, best()), form()), idle());
        h = mixPlans(h);
        h = mix(mix(mix(h, spare(NONE)), spare(0)), never());
        return mix(mix(h, years(7, 6, 0)), years(7, 6, 1));
    }

    private long mixSeats(long start) {
        long h = start;
        for (int seat = 0; seat < benches.number; seat++) {
            h = mix(mix(h, seat(seat, 0)), seat(seat, 1));
            h = mix(mix(h, sits(6, seat)), sits(LAST_DAY, seat));
            h = mix(h, ghost(seat));
        }
        return h;
    }

    private long mixDaysOf(long start, int boy) {
        long h = start;
        for (int what = 0; what <= SUBJECTS; what++) {
            h = mix(h, boy(boy, what));
        }
        for (int what = 0; what <= 2; what++) {
            h = mix(h, at(0, boy, what));
        }
        for (int what = 0; what <= 2; what++) {
            h = mix(h, at(8, boy, what));
        }
        for (int what = 0; what <= 2; what++) {
            h = mix(h, at(LAST_DAY, boy, what));
        }
        return h;
    }

    private long mixSubjectsOf(long start, int boy) {
        long h = start;
        for (int subject = 0; subject < SUBJECTS; subject++) {
            h = mix(mix(h, knows(8, boy, subject)), knows(LAST_DAY, boy, subject));
            h = mix(mix(h, first(boy, subject)), ask(boy, subject));
        }
        return h;
    }

    private long mixChancesOf(long start, int boy) {
        long h = mix(mix(start, sit(boy, 0)), sit(boy, 1));
        h = mix(h, sort(boy));
        return mix(mix(h, luck(5, boy, 0)), luck(5, boy, 1));
    }

    private long mixPlans(long start) {
        long h = start;
        for (int what = 0; what <= 2; what++) {
            h = mix(h, trade(8, what));
        }
        h = mix(mix(h, rush(0)), rush(1));
        for (int i = NONE; i < SUBJECTS; i++) {
            h = mix(h, table(i));
        }
        return h;
    }

    private static long mix(long h, long next) {
        return 31 * h + next;
    }

    private static boolean within(int number, int most) {
        return number >= 0 && number <= most;
    }

    private boolean isBoy(int boy) {
        return boy >= 0 && boy < roll.number;
    }

    private boolean isSeat(int seat) {
        return seat >= 0 && seat < benches.number;
    }

    private static boolean isChange(int day, int one, int other) {
        return within(day, LAST_DAY) && within(one, SEATS - 1) && within(other, SEATS - 1) && one != other;
    }

    private Text textOf(int text) {
        return text == 0 ? boyText : benchText;
    }

    private void rereadText(int text) {
        if (text == 0) {
            roll.fill(boyText);
        } else {
            benches.fill(benchText);
        }
        forgetYear();
    }

    private void forgetYear() {
        toldIsFresh = false;
        tally.isFresh = false;
        answered = NONE;
    }

    private Year yearAsTold() {
        if (!toldIsFresh) {
            told.begin(roll, benches);
            told.pass(changes, ALL);
            toldIsFresh = true;
        }
        return told;
    }

    private int found(int number) {
        finding = number;
        return -10 - number;
    }

    /** Whether the row of answers has to be found anew: several calls tell parts of one and the same row. */
    private boolean isAsked(int about) {
        boolean isNew = answered != about;
        answered = about;
        return isNew;
    }

    private void findSit(int boy, int own) {
        answers[0] = NONE;
        answers[1] = NONE;
        for (int seat = 0; seat < benches.number; seat++) {
            trial.begin(roll, benches);
            trial.exchange(0, own, seat);
            trial.pass(changes, ALL);
            int marks = trial.marksOf(LAST_DAY, boy);
            if (marks > answers[1]) {
                answers[0] = seat;
                answers[1] = marks;
            }
        }
    }

    private void findTrade(int day) {
        answers[0] = NONE;
        answers[1] = NONE;
        answers[2] = NONE;
        trialChanges.take(changes);
        for (int one = 0; one < benches.number; one++) {
            for (int other = one + 1; other < benches.number; other++) {
                trialChanges.number = changes.number;
                trialChanges.append(day, one, other);
                trial.begin(roll, benches);
                trial.pass(trialChanges, ALL);
                int much = trial.knownByAll();
                if (much > answers[2]) {
                    answers[0] = one;
                    answers[1] = other;
                    answers[2] = much;
                }
            }
        }
    }

    private void findRush(Year year) {
        for (int one = 0; one < roll.number; one++) {
            for (int other = one + 1; other < roll.number; other++) {
                int seat = benches.seatTold(one);
                int otherSeat = benches.seatTold(other);
                if (seat < 0 || otherSeat < 0) {
                    continue;
                }
                trial.begin(roll, benches);
                trial.exchange(0, seat, otherSeat);
                trial.pass(changes, ALL);
                if (trial.marksOf(LAST_DAY, one) > year.marksOf(LAST_DAY, one)
                        && trial.marksOf(LAST_DAY, other) > year.marksOf(LAST_DAY, other)) {
                    answers[0] = one;
                    answers[1] = other;
                    return;
                }
            }
        }
        answers[0] = NONE;
        answers[1] = NONE;
    }

    private void findTable() {
        answers[0] = NONE;
        for (int start = 0; start < ORDERS.length; start += SUBJECTS) {
            trial.begin(roll, benches);
            System.arraycopy(ORDERS, start, trial.order, 0, SUBJECTS);
            trial.pass(changes, ALL);
            int much = trial.knownByAll();
            if (much > answers[0]) {
                answers[0] = much;
                System.arraycopy(ORDERS, start, answers, 1, SUBJECTS);
            }
        }
    }

    private void findSpare() {
        answers[0] = 0;
        answers[1] = NONE;
        answers[2] = NONE;
        if (nobodyIsIdle(ALL)) {
            return;
        }
        answers[0] = 1;
        for (int one = 0; one < changes.number; one++) {
            if (nobodyIsIdle(ALL ^ (1 << one))) {
                answers[1] = one;
                return;
            }
        }
        answers[0] = 2;
        for (int one = 0; one < changes.number; one++) {
            for (int other = one + 1; other < changes.number; other++) {
                if (nobodyIsIdle(ALL ^ (1 << one) ^ (1 << other))) {
                    answers[1] = one;
                    answers[2] = other;
                    return;
                }
            }
        }
        answers[0] = NONE;
    }

    private boolean nobodyIsIdle(int done) {
        trial.begin(roll, benches);
        trial.pass(changes, done);
        return (trial.idlers() & benches.sittersTold(roll.number)) == 0;
    }

    private void findFirsts(int boy, int subject) {
        int bits = 0;
        for (int figure = 0; figure < FIGURES; figure++) {
            trial.begin(roll, benches);
            trial.known[boy * SUBJECTS + subject] = figure;
            trial.pass(changes, ALL);
            if (seens.agree(trial)) {
                bits |= 1 << figure;
            }
            for (int day = 0; day < DAYS; day++) {
                askRows[figure * DAYS + day] = trial.knownBehind(day, boy, subject);
            }
        }
        answers[0] = bits;
        answers[1] = dayToAsk(bits);
    }

    private int dayToAsk(int bits) {
        int day = 0;
        int least = FIGURES + 1;
        for (int d = 0; d < DAYS; d++) {
            int greatest = greatestAlike(d, bits);
            if (greatest < least) {
                least = greatest;
                day = d;
            }
        }
        return day;
    }

    private int greatestAlike(int day, int bits) {
        Arrays.fill(askSizes, 0);
        int greatest = 0;
        for (int figure = 0; figure < FIGURES; figure++) {
            int much = askRows[figure * DAYS + day];
            if (((bits >> figure) & 1) != 0 && within(much, MOST_KNOWN)) {
                askSizes[much]++;
                greatest = Math.max(greatest, askSizes[much]);
            }
        }
        return greatest;
    }

    private void tallyBests() {
        tally.clear();
        int ways = 1 << changes.number;
        for (int done = 0; done < ways; done++) {
            trial.begin(roll, benches);
            trial.pass(changes, done);
            tally.append(trial.mostMarked(), Integer.bitCount(done));
        }
        tally.isFresh = true;
    }

    private void drawChanges(int seed, int n) {
        trialChanges.number = 0;
        lots.seed = seed;
        if (benches.number == 0) {
            return;
        }
        for (int i = 0; i < n; i++) {
            int day = lots.draw(DAYS);
            int one = lots.draw(benches.number);
            int other = lots.draw(benches.number);
            if (one != other) {
                trialChanges.append(day, one, other);
            }
        }
    }

    private static long power(long base, int exponent) {
        long power = 1;
        for (int i = 0; i < exponent; i++) {
            power *= base;
        }
        return power;
    }

    /** Each two steps halve the greater number at least, so 128 are enough for any two longs. */
    private static long commonDivisor(long one, long other) {
        long a = one;
        long b = other;
        for (int i = 0; i < 128 && b != 0; i++) {
            long rest = a % b;
            a = b;
            b = rest;
        }
        return a;
    }

    /** The bytes of a text, as typed. */
    private static final class Text {
        final int[] bytes;
        int length = 0;

        Text(int room) {
            bytes = new int[Math.max(room, 0)];
        }

        boolean append(int b) {
            if (length >= bytes.length) {
                return false;
            }
            bytes[length] = b;
            length++;
            return true;
        }
    }

    /** BOYS, as their text tells them. */
    private static final class Roll {
        final int[] sorts = new int[BOYS];
        final int[] firsts = new int[KNOWN];
        int number = 0;
        int faultPlace = NONE;

        void fill(Text text) {
            number = 0;
            faultPlace = findFault(text);
            if (faultPlace != NONE) {
                return;
            }
            for (int i = 0; i + BOY_LENGTH - 1 <= text.length && number < BOYS; i += BOY_LENGTH) {
                sorts[number] = sortOf(text.bytes[i]);
                for (int subject = 0; subject < SUBJECTS; subject++) {
                    firsts[number * SUBJECTS + subject] = text.bytes[i + 1 + subject] - '0';
                }
                number++;
            }
        }

        private static int findFault(Text text) {
            for (int i = 0; i < text.length; i++) {
                if (i >= BOYS * BOY_LENGTH || !fits(text.bytes[i], i % BOY_LENGTH)) {
                    return i;
                }
            }
            boolean isEnded = text.length == 0 || text.length % BOY_LENGTH == BOY_LENGTH - 1;
            return isEnded ? NONE : text.length;
        }

        private static boolean fits(int b, int place) {
            if (place == 0) {
                return sortOf(b) != NONE;
            }
            return place == BOY_LENGTH - 1 ? b == ';' : (b >= '0' && b <= '9');
        }

        private static int sortOf(int b) {
            switch (b) {
                case 'c': return CLEVER;
                case 'd': return DULL;
                case 'b': return BULLY;
                default: return NONE;
            }
        }
    }

    /** BENCHES, as their text tells them; letters stay, for BOYS may come and go behind them. */
    private static final class Benches {
        final int[] letters = new int[SEATS];
        final int[] benchOf = new int[SEATS];
        int number = 0;
        int faultPlace = NONE;

        void fill(Text text) {
            number = 0;
            faultPlace = fillToFault(text);
            if (faultPlace != NONE) {
                number = 0;
            }
        }

        private int fillToFault(Text text) {
            int bench = 0;
            int onBench = 0;
            for (int i = 0; i < text.length; i++) {
                int b = text.bytes[i];
                if (b == ';' && onBench > 0) {
                    bench++;
                    onBench = 0;
                } else if (bench < BENCHES && onBench < BENCH_SEATS && mayStand(b)) {
                    letters[number] = b == '.' ? NONE : b - 'a';
                    benchOf[number] = bench;
                    number++;
                    onBench++;
                } else {
                    return i;
                }
            }
            return text.length > 0 && onBench == 0 ? text.length : NONE;
        }

        private boolean mayStand(int b) {
            if (number >= SEATS) {
                return false;
            }
            return b == '.' || (b >= 'a' && b < 'a' + BOYS && seatTold(b - 'a') == NONE);
        }

        int seatTold(int boy) {
            for (int seat = 0; seat < number; seat++) {
                if (letters[seat] == boy) {
                    return seat;
                }
            }
            return NONE;
        }

        int sitter(int seat, int boys) {
            return letters[seat] < boys ? letters[seat] : NONE;
        }

        int sittersTold(int boys) {
            int bits = 0;
            for (int seat = 0; seat < number; seat++) {
                int boy = sitter(seat, boys);
                if (boy >= 0) {
                    bits |= 1 << boy;
                }
            }
            return bits;
        }
    }

    /** A row of CHANGES, with room for one more than may be told: the one that TRADE tries. */
    private static final class Changes {
        final int[] days = new int[CHANGES + 1];
        final int[] ones = new int[CHANGES + 1];
        final int[] others = new int[CHANGES + 1];
        int number = 0;

        void append(int day, int one, int other) {
            if (number < days.length) {
                days[number] = day;
                ones[number] = one;
                others[number] = other;
                number++;
            }
        }

        void take(Changes from) {
            number = 0;
            for (int i = 0; i < from.number; i++) {
                append(from.days[i], from.ones[i], from.others[i]);
            }
        }
    }

    /** What was SEEN. */
    private static final class Seens {
        final int[] days = new int[SEENS];
        final int[] boys = new int[SEENS];
        final int[] subjects = new int[SEENS];
        final int[] muches = new int[SEENS];
        int number = 0;

        boolean append(int day, int boy, int subject, int much) {
            if (number >= SEENS) {
                return false;
            }
            days[number] = day;
            boys[number] = boy;
            subjects[number] = subject;
            muches[number] = much;
            number++;
            return true;
        }

        boolean agree(Year year) {
            for (int i = 0; i < number; i++) {
                if (boys[i] >= year.boys || year.knownBehind(days[i], boys[i], subjects[i]) != muches[i]) {
                    return false;
                }
            }
            return true;
        }
    }

    /** All DAYS, one by one: row 0 is ahead of DAY 0, row d + 1 behind DAY d. */
    private static final class Year {
        final int[] sitters = new int[(DAYS + 1) * SEATS];
        final int[] known = new int[(DAYS + 1) * KNOWN];
        final int[] marks = new int[(DAYS + 1) * BOYS];
        final int[] gains = new int[DAYS * BOYS];
        final int[] ghosts = new int[SEATS];
        final int[] sorts = new int[BOYS];
        final int[] benchOf = new int[SEATS];
        final int[] order = new int[SUBJECTS];
        int boys = 0;
        int seats = 0;

        void begin(Roll roll, Benches benches) {
            boys = roll.number;
            seats = benches.number;
            System.arraycopy(roll.sorts, 0, sorts, 0, BOYS);
            System.arraycopy(roll.firsts, 0, known, 0, KNOWN);
            System.arraycopy(benches.benchOf, 0, benchOf, 0, SEATS);
            for (int seat = 0; seat < seats; seat++) {
                sitters[seat] = benches.sitter(seat, boys);
            }
            Arrays.fill(ghosts, 0);
            for (int boy = 0; boy < BOYS; boy++) {
                marks[boy] = 0;
            }
            for (int subject = 0; subject < SUBJECTS; subject++) {
                order[subject] = subject;
            }
        }

        void pass(Changes changes, int done) {
            Arrays.fill(gains, 0);
            for (int day = 0; day < DAYS; day++) {
                System.arraycopy(sitters, day * SEATS, sitters, (day + 1) * SEATS, SEATS);
                System.arraycopy(known, day * KNOWN, known, (day + 1) * KNOWN, KNOWN);
                System.arraycopy(marks, day * BOYS, marks, (day + 1) * BOYS, BOYS);
                for (int i = 0; i < changes.number; i++) {
                    if (changes.days[i] == day && ((done >> i) & 1) != 0) {
                        exchange(day + 1, changes.ones[i], changes.others[i]);
                    }
                }
                teach(day, order[day % SUBJECTS]);
                mark(day);
            }
        }

        void exchange(int row, int one, int other) {
            if (one < seats && other < seats) {
                int sitter = sitters[row * SEATS + one];
                sitters[row * SEATS + one] = sitters[row * SEATS + other];
                sitters[row * SEATS + other] = sitter;
            }
        }

        /** GAINS go by the row ahead of the LESSON, and come to the row behind it: so they are all at once. */
        private void teach(int day, int subject) {
            int row = (day + 1) * SEATS;
            int ahead = day * KNOWN + subject;
            for (int seat = 0; seat < seats; seat++) {
                int boy = sitters[row + seat];
                if (boy >= 0) {
                    int gain = gainOf(boy, beside(row, seat, seat - 1), beside(row, seat, seat + 1), ahead);
                    gains[day * BOYS + boy] = gain;
                    known[ahead + KNOWN + boy * SUBJECTS] += gain;
                }
            }
        }

        private int gainOf(int boy, int left, int right, int ahead) {
            int much = known[ahead + boy * SUBJECTS];
            int more = 0;
            if (left >= 0 && known[ahead + left * SUBJECTS] > much) {
                more++;
            }
            if (right >= 0 && known[ahead + right * SUBJECTS] > much) {
                more++;
            }
            int gain = more;
            if (sorts[boy] == CLEVER) {
                gain = more > 0 || (left < 0 && right < 0) ? 1 : 0;
            } else if (sorts[boy] == BULLY) {
                gain = more > 0 ? 2 : 0;
            }
            return Math.min(gain, MOST_KNOWN - much);
        }

        private void mark(int day) {
            int row = (day + 1) * SEATS;
            for (int seat = 0; seat < seats; seat++) {
                int left = beside(row, seat, seat - 1);
                int right = beside(row, seat, seat + 1);
                int more = (left < 0 ? 0 : gains[day * BOYS + left]) + (right < 0 ? 0 : gains[day * BOYS + right]);
                int boy = sitters[row + seat];
                if (boy < 0) {
                    ghosts[seat] += more;
                } else {
                    marks[(day + 1) * BOYS + boy] += sorts[boy] == BULLY ? 2 * more : more;
                }
            }
        }

        /** Who sits in a SEAT next to one, if it is there and on the same BENCH. */
        private int beside(int row, int seat, int next) {
            if (next < 0 || next >= seats || benchOf[next] != benchOf[seat]) {
                return NONE;
            }
            return sitters[row + next];
        }

        int seatOf(int day, int boy) {
            for (int seat = 0; seat < seats; seat++) {
                if (sitters[(day + 1) * SEATS + seat] == boy) {
                    return seat;
                }
            }
            return NONE;
        }

        int marksOf(int day, int boy) {
            return marks[(day + 1) * BOYS + boy];
        }

        int knownBehind(int day, int boy, int subject) {
            return known[(day + 1) * KNOWN + boy * SUBJECTS + subject];
        }

        /** The DAY, BOY and SUBJECT, as one number in that order, where so much is KNOWN first; NONE. */
        int firstPlaceOf(int much) {
            for (int day = 0; day < DAYS; day++) {
                for (int place = 0; place < boys * SUBJECTS; place++) {
                    if (known[(day + 1) * KNOWN + place] >= much) {
                        return day * KNOWN + place;
                    }
                }
            }
            return NONE;
        }

        int mostMarked() {
            int best = NONE;
            for (int boy = 0; boy < boys; boy++) {
                if (best < 0 || marksOf(LAST_DAY, boy) > marksOf(LAST_DAY, best)) {
                    best = boy;
                }
            }
            return best;
        }

        int knownByAll() {
            int sum = 0;
            for (int place = 0; place < boys * SUBJECTS; place++) {
                sum += known[DAYS * KNOWN + place];
            }
            return sum;
        }

        int marksOfAll() {
            int sum = 0;
            for (int boy = 0; boy < boys; boy++) {
                sum += marksOf(LAST_DAY, boy);
            }
            return sum;
        }

        int ghostsOfAll() {
            int sum = 0;
            for (int seat = 0; seat < seats; seat++) {
                sum += ghosts[seat];
            }
            return sum;
        }

        int idlers() {
            int gained = 0;
            for (int day = 0; day < DAYS; day++) {
                for (int boy = 0; boy < boys; boy++) {
                    if (gains[day * BOYS + boy] > 0) {
                        gained |= 1 << boy;
                    }
                }
            }
            return ((1 << boys) - 1) & ~gained;
        }
    }

    /** LOTS by a SEED. */
    private static final class Lots {
        int seed = 0;

        int draw(int m) {
            seed = 1103515245 * seed + 12345;
            return m > 0 ? (seed >>> 16) % m : 0;
        }
    }

    /** In how many ways of doing so many CHANGES a BOY is BEST. */
    private static final class Tally {
        final int[] ways = new int[BOYS * (CHANGES + 1)];
        boolean isFresh = false;

        void clear() {
            Arrays.fill(ways, 0);
        }

        void append(int boy, int changesDone) {
            if (boy >= 0) {
                ways[boy * (CHANGES + 1) + changesDone]++;
            }
        }

        /** By sixteenths to the power of all CHANGES. */
        long chanceOf(int boy, int c, int changes) {
            long sum = 0;
            for (int done = 0; done <= changes; done++) {
                sum += ways[boy * (CHANGES + 1) + done] * power(c, done) * power(SIXTEENTHS - c, changes - done);
            }
            return sum;
        }
    }

    /** A SHEET; its items are kept as ints that have been cut to its FORM. */
    private static final class Sheet {
        final int[] items = new int[ITEMS];
        int number = 0;
        int kind = BYTES;
        boolean isLost = true;

        void renew(int newKind, int n) {
            kind = newKind;
            number = n;
            isLost = false;
            Arrays.fill(items, 0);
        }

        /** The FINDING that treating it so would be; 0 if there is none. */
        int wrongAt(int asKind, int i) {
            if (isLost) {
                return FOUND_NULL;
            }
            if (asKind != kind) {
                return FOUND_CAST;
            }
            return has(i, 1) ? 0 : FOUND_INDEX;
        }

        boolean has(int from, int n) {
            return from >= 0 && n >= 0 && n <= number - from;
        }

        void store(int i, int v) {
            items[i] = kind == BYTES ? (byte) v : kind == SHORTS ? (short) v : v;
        }
    }
}
