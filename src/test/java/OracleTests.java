import java.util.Random;

/** Runs of calls by fixed seeds: the class must answer as the slow model does, call by call. */
public final class OracleTests {
    private static final int RUNS = 300;
    private static final int CALLS = 200;

    private final Check check = new Check();
    private Random dice;
    private MarkedByNext x;
    private Oracle y;
    private String run;

    public static void main(String[] args) {
        OracleTests t = new OracleTests();
        for (int seed = 0; seed < RUNS && !t.check.isWrong(); seed++) {
            t.liveOn(seed);
        }
        t.check.end();
    }

    private void liveOn(int seed) {
        dice = new Random(seed);
        x = new MarkedByNext();
        y = new Oracle();
        run = "run " + seed + ": ";
        typeBoth(0, someBoys());
        typeBoth(1, someBenches());
        for (int i = dice.nextInt(9); i > 0; i--) {
            changeSome();
        }
        for (int i = 0; i < CALLS && !check.isWrong(); i++) {
            int kind = dice.nextInt(100);
            if (kind < 12) {
                edit();
            } else if (kind < 30) {
                sheets();
            } else if (kind < 55) {
                days();
            } else if (kind < 80) {
                plans();
            } else {
                sights();
            }
        }
        due("digest()", x.digest(), y.digest());
    }

    private void due(String call, long got, long want) {
        check.due(run + call, got, want);
    }

    private int about(int limit) {
        int d = dice.nextInt(40);
        if (d == 0) {
            return -1;
        }
        if (d == 1) {
            return limit;
        }
        return d == 2 ? dice.nextInt() : dice.nextInt(limit);
    }

    private void typeBoth(int text, String s) {
        for (char ch : s.toCharArray()) {
            due("type(" + text + ", " + (int) ch + ")", x.type(text, ch), y.type(text, ch));
        }
    }

    private String someBoys() {
        StringBuilder s = new StringBuilder();
        int n = dice.nextInt(9);
        int top = dice.nextBoolean() ? 10 : 4;
        for (int i = 0; i < n; i++) {
            s.append(i == 0 ? "" : ";").append("cdb".charAt(dice.nextInt(3)));
            s.append(dice.nextInt(top)).append(dice.nextInt(top)).append(dice.nextInt(top));
        }
        return s.toString();
    }

    private String someBenches() {
        java.util.List<Character> letters = new java.util.ArrayList<>();
        for (char ch : "abcdefgh......".toCharArray()) {
            letters.add(ch);
        }
        java.util.Collections.shuffle(letters, dice);
        StringBuilder s = new StringBuilder();
        int n = dice.nextInt(5);
        for (int i = 0; i < n; i++) {
            s.append(i == 0 ? "" : ";");
            for (int k = dice.nextInt(4); k >= 0 && !letters.isEmpty(); k--) {
                s.append(letters.remove(0));
            }
        }
        return s.toString();
    }

    private void changeSome() {
        int day = about(30);
        int one = about(dice.nextBoolean() ? 16 : 5);
        int other = about(dice.nextBoolean() ? 16 : 5);
        due("change(" + day + ", " + one + ", " + other + ")", x.change(day, one, other), y.change(day, one, other));
    }

    private void edit() {
        int text = about(2);
        switch (dice.nextInt(9)) {
            case 0 -> {
                int b = dice.nextInt(3) == 0 ? about(256) : "abcdefgh.;0123456789".charAt(dice.nextInt(20));
                due("type(" + text + ", " + b + ")", x.type(text, b), y.type(text, b));
            }
            case 1 -> due("undo(" + text + ")", x.undo(text), y.undo(text));
            case 2 -> {
                due("wipe(0)", x.wipe(0), y.wipe(0));
                typeBoth(0, someBoys());
            }
            case 3 -> {
                due("wipe(1)", x.wipe(1), y.wipe(1));
                typeBoth(1, someBenches());
            }
            case 4 -> due("back()", x.back(), y.back());
            case 5 -> {
                int v = about(31);
                due("masters(" + v + ")", x.masters(v), y.masters(v));
            }
            case 6 -> {
                int s = about(4);
                if (dice.nextBoolean()) {
                    fillWithChanges(s);
                }
                due("read(" + s + ")", x.read(s), y.read(s));
                due("count(4)", x.count(4), y.count(4));
            }
            default -> changeSome();
        }
        due("fault(" + text + ")", x.fault(text), y.fault(text));
    }

    private void fillWithChanges(int s) {
        int form = dice.nextInt(3);
        int n = dice.nextInt(13);
        due("sheet(" + s + ", " + form + ", " + n + ")", x.sheet(s, form, n), y.sheet(s, form, n));
        for (int i = 0; i < n; i++) {
            int v = i % 3 == 0 ? dice.nextInt(30) : dice.nextInt(16);
            due("put(" + s + ", " + form + ", " + i + ", " + v + ")", x.put(s, form, i, v), y.put(s, form, i, v));
        }
    }

    private void days() {
        int day = about(30);
        int boy = about(8);
        int seat = about(16);
        int what = about(3);
        switch (dice.nextInt(11)) {
            case 0 -> due("boy(" + boy + ", " + what + ")", x.boy(boy, what), y.boy(boy, what));
            case 1 -> due("seat(" + seat + ", " + what + ")", x.seat(seat, what), y.seat(seat, what));
            case 2 -> due("at(" + day + ", " + boy + ", " + what + ")", x.at(day, boy, what), y.at(day, boy, what));
            case 3 -> due("knows(" + day + ", " + boy + ", " + what + ")", x.knows(day, boy, what), y.knows(day, boy, what));
            case 4 -> due("sits(" + day + ", " + seat + ")", x.sits(day, seat), y.sits(day, seat));
            case 5 -> due("ghost(" + seat + ")", x.ghost(seat), y.ghost(seat));
            case 6 -> due("master(" + what + ")", x.master(what), y.master(what));
            case 7 -> due("best()", x.best(), y.best());
            case 8 -> due("form()", x.form(), y.form());
            case 9 -> due("idle()", x.idle(), y.idle());
            default -> {
                int w = about(9);
                due("count(" + w + ")", x.count(w), y.count(w));
            }
        }
    }

    private void plans() {
        int boy = about(8);
        int i = about(4) - 1;
        int day = about(30);
        int what = about(2);
        switch (dice.nextInt(6)) {
            case 0 -> due("sit(" + boy + ", " + what + ")", x.sit(boy, what), y.sit(boy, what));
            case 1 -> {
                int w = about(3);
                due("trade(" + day + ", " + w + ")", x.trade(day, w), y.trade(day, w));
            }
            case 2 -> due("rush(" + what + ")", x.rush(what), y.rush(what));
            case 3 -> due("table(" + i + ")", x.table(i), y.table(i));
            case 4 -> due("spare(" + i + ")", x.spare(i), y.spare(i));
            default -> {
                int seed = dice.nextInt();
                int n = about(9);
                due("years(" + seed + ", " + n + ", " + what + ")", x.years(seed, n, what), y.years(seed, n, what));
            }
        }
    }

    private void sights() {
        int boy = about(8);
        int subject = about(3);
        switch (dice.nextInt(8)) {
            case 0, 1 -> {
                int day = about(30);
                int known = y.knows(day, boy, subject);
                int much = known >= 0 && dice.nextInt(4) > 0 ? known : about(31);
                due("seen(" + day + ", " + boy + ", " + subject + ", " + much + ")",
                        x.seen(day, boy, subject, much), y.seen(day, boy, subject, much));
            }
            case 2 -> due("forget()", x.forget(), y.forget());
            case 3 -> due("never()", x.never(), y.never());
            case 4 -> due("sort(" + boy + ")", x.sort(boy), y.sort(boy));
            case 5 -> due("first(" + boy + ", " + subject + ")", x.first(boy, subject), y.first(boy, subject));
            case 6 -> due("ask(" + boy + ", " + subject + ")", x.ask(boy, subject), y.ask(boy, subject));
            default -> {
                int c = about(17);
                int what = about(2);
                due("luck(" + c + ", " + boy + ", " + what + ")", x.luck(c, boy, what), y.luck(c, boy, what));
            }
        }
    }

    private void sheets() {
        int s = about(4);
        int t = about(4);
        int form = about(3);
        int i = about(20);
        switch (dice.nextInt(8)) {
            case 0 -> {
                int n = about(61);
                due("sheet(" + s + ", " + form + ", " + n + ")", x.sheet(s, form, n), y.sheet(s, form, n));
            }
            case 1 -> {
                if (dice.nextInt(3) == 0) {
                    due("lose(" + s + ")", x.lose(s), y.lose(s));
                }
            }
            case 2, 3 -> {
                int v = dice.nextInt(4) == 0 ? dice.nextInt() : dice.nextInt(16);
                due("put(" + s + ", " + form + ", " + i + ", " + v + ")", x.put(s, form, i, v), y.put(s, form, i, v));
            }
            case 4, 5 -> due("get(" + s + ", " + form + ", " + i + ")", x.get(s, form, i), y.get(s, form, i));
            case 6 -> {
                int j = about(20);
                int n = about(30);
                due("copy(" + s + ", " + i + ", " + t + ", " + j + ", " + n + ")",
                        x.copy(s, i, t, j, n), y.copy(s, i, t, j, n));
            }
            default -> {
                int boy = about(8);
                due("write(" + boy + ", " + s + ")", x.write(boy, s), y.write(boy, s));
            }
        }
        due("count(8)", x.count(8), y.count(8));
    }
}
