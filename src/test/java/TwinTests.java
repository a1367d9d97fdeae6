import java.util.Random;

/** Schools by fixed seeds, the smallest and the largest among them: plans and the like must be as Twins finds them. */
public final class TwinTests {
    private static final int SCHOOLS = 40;
    private static final Check CHECK = new Check();

    private final Random dice;
    private final School school;
    private final MarkedByNext x;

    private TwinTests(Random dice, School school) {
        this.dice = dice;
        this.school = school;
        this.x = school.made();
    }

    public static void main(String[] args) {
        for (int seed = 0; seed < SCHOOLS && !CHECK.isWrong(); seed++) {
            Random dice = new Random(seed);
            int boys = seed % 4 == 0 ? 8 : dice.nextInt(9);
            int seats = seed % 4 == 0 ? 16 : dice.nextInt(17);
            School school = new School(someBoys(dice, boys), someBenches(dice, seats));
            int changes = seed % 4 == 0 ? 7 : dice.nextInt(8);
            for (int i = 0; i < changes; i++) {
                int one = dice.nextInt(16);
                school = school.and(dice.nextInt(30), one, (one + 1 + dice.nextInt(15)) % 16);
            }
            new TwinTests(dice, school).plans();
            new TwinTests(dice, withSights(dice, school, boys)).sights(boys);
        }
        CHECK.end();
    }

    private void due(String call, long got, long want) {
        CHECK.due(school + ": " + call, got, want);
    }

    private void plans() {
        int boys = x.count(0);
        for (int boy = 0; boy < boys; boy++) {
            int[] sit = Twins.sit(school, boy);
            due("sit(" + boy + ", 0)", x.sit(boy, 0), sit[0]);
            due("sit(" + boy + ", 1)", x.sit(boy, 1), sit[1]);
        }
        int day = dice.nextInt(30);
        int[] trade = Twins.trade(school, day);
        for (int what = 0; what <= 2; what++) {
            due("trade(" + day + ", " + what + ")", x.trade(day, what), trade[what]);
        }
        int[] rush = Twins.rush(school);
        due("rush(0)", x.rush(0), rush[0]);
        due("rush(1)", x.rush(1), rush[1]);
        int[] table = Twins.table(school);
        int[] spare = Twins.spare(school);
        for (int i = -1; i <= 2; i++) {
            due("table(" + i + ")", x.table(i), table[i + 1]);
            due("spare(" + i + ")", x.spare(i), i == 2 ? MarkedByNext.BAD : spare[i + 1]);
        }
        for (int n = 0; n <= 8; n++) {
            int seed = dice.nextInt();
            int[] years = Twins.years(school, seed, n);
            due("years(" + seed + ", " + n + ", 0)", x.years(seed, n, 0), years[0]);
            due("years(" + seed + ", " + n + ", 1)", x.years(seed, n, 1), years[1]);
        }
    }

    private void sights(int boys) {
        due("never()", x.never(), Twins.never(school));
        for (int boy = 0; boy < boys; boy++) {
            due("sort(" + boy + ")", x.sort(boy), Twins.sort(school, boy));
            for (int subject = 0; subject <= 2; subject++) {
                due("first(" + boy + ", " + subject + ")", x.first(boy, subject), Twins.first(school, boy, subject));
                due("ask(" + boy + ", " + subject + ")", x.ask(boy, subject), Twins.ask(school, boy, subject));
            }
        }
        if (boys > 0) {
            int boy = dice.nextInt(boys);
            int c = dice.nextInt(17);
            long[] luck = Twins.luck(school, c, boy);
            due("luck(" + c + ", " + boy + ", 0)", x.luck(c, boy, 0), luck[0]);
            due("luck(" + c + ", " + boy + ", 1)", x.luck(c, boy, 1), luck[1]);
        }
    }

    /** With what was SEEN there indeed, most often; now and then with what was not. */
    private static School withSights(Random dice, School school, int boys) {
        School more = school;
        MarkedByNext told = school.made();
        for (int i = dice.nextInt(9); i > 0 && boys > 0; i--) {
            int day = dice.nextInt(30);
            int boy = dice.nextInt(boys);
            int subject = dice.nextInt(3);
            int much = told.knows(day, boy, subject) + (dice.nextInt(20) == 0 ? 1 : 0);
            more = more.saw(day, boy, subject, much);
        }
        return more;
    }

    private static String someBoys(Random dice, int number) {
        StringBuilder s = new StringBuilder();
        for (int i = 0; i < number; i++) {
            s.append(i == 0 ? "" : ";").append("cdb".charAt(dice.nextInt(3)));
            s.append(dice.nextInt(10)).append(dice.nextInt(10)).append(dice.nextInt(10));
        }
        return s.toString();
    }

    private static String someBenches(Random dice, int seats) {
        StringBuilder letters = new StringBuilder("abcdefgh........");
        StringBuilder s = new StringBuilder();
        for (int seat = 0; seat < seats; seat++) {
            s.append(seat > 0 && seat % 4 == 0 ? ";" : "");
            int at = dice.nextInt(letters.length());
            s.append(letters.charAt(at));
            letters.deleteCharAt(at);
        }
        return s.toString();
    }
}
