import java.util.ArrayList;
import java.util.List;
import java.util.function.ToLongFunction;

/** Whatever was asked just before, a call answers as on a new object: the class keeps rows of answers, one at a time. */
public final class OrderTests {
    private record Asked(String call, ToLongFunction<MarkedByNext> answer) {
    }

    public static void main(String[] args) {
        Check check = new Check();
        List<Asked> all = allThatIsKept();
        long[] alone = new long[all.size()];
        for (int i = 0; i < alone.length; i++) {
            alone[i] = all.get(i).answer().applyAsLong(someSchool());
        }
        for (Asked before : all) {
            MarkedByNext x = someSchool();
            for (int i = 0; i < alone.length; i++) {
                before.answer().applyAsLong(x);
                long got = all.get(i).answer().applyAsLong(x);
                check.due(all.get(i).call() + " behind " + before.call(), got, alone[i]);
            }
        }
        check.end();
    }

    private static MarkedByNext someSchool() {
        MarkedByNext x = Check.school("c159;d267;b048;d753;c391;b826;d914;c000", "abc.;de.f;.g;h");
        x.change(4, 0, 5);
        x.change(9, 1, 6);
        x.change(12, 2, 11);
        x.change(20, 0, 10);
        x.seen(7, 1, 1, x.knows(7, 1, 1));
        x.seen(25, 4, 2, x.knows(25, 4, 2));
        return x;
    }

    private static List<Asked> allThatIsKept() {
        List<Asked> all = new ArrayList<>();
        for (int b = 0; b < 8; b++) {
            int boy = b;
            for (int s = 0; s < 3; s++) {
                int subject = s;
                all.add(new Asked("first(" + b + ", " + s + ")", x -> x.first(boy, subject)));
                all.add(new Asked("ask(" + b + ", " + s + ")", x -> x.ask(boy, subject)));
            }
            all.add(new Asked("sit(" + b + ", 0)", x -> x.sit(boy, 0)));
            all.add(new Asked("sit(" + b + ", 1)", x -> x.sit(boy, 1)));
            all.add(new Asked("sort(" + b + ")", x -> x.sort(boy)));
            all.add(new Asked("luck(5, " + b + ", 0)", x -> x.luck(5, boy, 0)));
        }
        for (int d = 0; d < 30; d += 7) {
            int day = d;
            all.add(new Asked("trade(" + d + ", 0)", x -> x.trade(day, 0)));
            all.add(new Asked("trade(" + d + ", 1)", x -> x.trade(day, 1)));
            all.add(new Asked("trade(" + d + ", 2)", x -> x.trade(day, 2)));
        }
        for (int k = -1; k < 3; k++) {
            int i = k;
            all.add(new Asked("table(" + k + ")", x -> x.table(i)));
            all.add(new Asked("spare(" + k + ")", x -> x.spare(i)));
            all.add(new Asked("rush(" + k + ")", x -> x.rush(i)));
            all.add(new Asked("years(" + k + ", 8, 0)", x -> x.years(i, 8, 0)));
        }
        all.add(new Asked("never()", MarkedByNext::never));
        all.add(new Asked("form()", MarkedByNext::form));
        all.add(new Asked("best()", MarkedByNext::best));
        return all;
    }
}
