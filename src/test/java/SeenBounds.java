/** Promises 25 to 32: what was SEEN, luck, years. */
final class SeenBounds extends Bounds {
    private static final int WAYS = 16;

    SeenBounds(Sayings sayings) {
        super(sayings);
    }

    @Override
    void all() {
        sightsTold();
        numberSeen();
        boysSeen();
        forgetting();
        nevers();
        neverOfOne();
        sorts();
        firsts();
        firstsAtTheirBounds();
        asks();
        daysToAsk();
        lucksAsked();
        sixteenths();
        fractions();
        smallestFraction();
        yearsAsked();
        noSeats();
        lotsOfDaysAndSeats();
        seedsThatWrap();
    }

    private void sightsTold() {
        says("SEEN more: how many. BAD; FULL.");
        MarkedByNext x = new MarkedByNext();
        due(25, "DAY -1", x.seen(-1, 0, 0, 0), BAD);
        due(25, "DAY 30", x.seen(30, 0, 0, 0), BAD);
        due(25, "BOY -1", x.seen(0, -1, 0, 0), BAD);
        due(25, "BOY 8", x.seen(0, 8, 0, 0), BAD);
        due(25, "SUBJECT -1", x.seen(0, 0, -1, 0), BAD);
        due(25, "SUBJECT 3", x.seen(0, 0, 3, 0), BAD);
        due(25, "-1", x.seen(0, 0, 0, -1), BAD);
        due(25, "31", x.seen(0, 0, 0, 31), BAD);
        due(25, "the least", x.seen(LEAST, LEAST, LEAST, LEAST), BAD);
        due(25, "the most", x.seen(MOST, MOST, MOST, MOST), BAD);
        due(39, "none came", x.count(7), 0);
        due(25, "all at their least", x.seen(0, 0, 0, 0), 1);
        due(25, "all at their most", x.seen(29, 7, 2, 30), 2);
        due(39, "two came", x.count(7), 2);
    }

    private void numberSeen() {
        says("SEEN, 8 at most: behind a DAY a BOY (0 to 7; one that there is not: never) KNEW so much (0 to 30) of a"
                + " SUBJECT.");
        MarkedByNext x = school("d000", "a");
        for (int n = 1; n <= 8; n++) {
            due(25, "the one of number " + n, x.seen(n, 0, 0, n < 8 ? 0 : 30), n);
            due(39, "so many", x.count(7), n);
            due(28, "SORT by " + n, x.sort(0), n < 8 ? 6 : 0);
        }
        due(25, "a ninth", x.seen(0, 0, 0, 0), FULL);
        due(25, "BAD ahead of FULL", x.seen(0, 0, 0, 31), BAD);
        due(39, "no ninth", x.count(7), 8);
        due(26, "all eight", x.forget(), 8);
        due(25, "then one", x.seen(0, 0, 0, 0), 1);
    }

    private void boysSeen() {
        says("one that there is not: never");
        MarkedByNext x = school("d000;d000", "a;b");
        x.change(0, 14, 15);
        x.seen(29, 1, 0, 0);
        due(27, "the last BOY that there is", x.never(), 1);
        due(28, "the last BOY that there is", x.sort(0), 7);
        due(29, "the last BOY that there is", x.first(0, 0), 1023);
        x.forget();
        x.seen(29, 2, 0, 0);
        due(27, "the first BOY that there is not", x.never(), 0);
        due(28, "the first BOY that there is not", x.sort(0), 0);
        due(29, "the first BOY that there is not", x.first(0, 0), 0);
        Check.typeIn(x, 0, ";d000");
        due(27, "he has come", x.never(), 1);
        due(28, "he has come", x.sort(0), 7);
        due(29, "he has come", x.first(0, 0), 1023);
        x.forget();
        x.seen(29, 7, 2, 0);
        due(27, "BOY 7", x.never(), 0);
        Check.typeIn(x, 0, ";d000;d000;d000;d000;d000");
        due(27, "BOY 7 has come", x.never(), 1);
    }

    private void forgetting() {
        says("All SEEN are forgotten: how many.");
        MarkedByNext x = school("d000", "a");
        due(26, "none", x.forget(), 0);
        x.seen(0, 0, 0, 30);
        due(28, "SEEN", x.sort(0), 0);
        due(26, "one", x.forget(), 1);
        due(28, "forgotten", x.sort(0), 7);
        for (int n = 0; n < 8; n++) {
            x.seen(0, 0, 0, 30);
        }
        due(26, "eight", x.forget(), 8);
        due(26, "none", x.forget(), 0);
        due(39, "none", x.count(7), 0);
    }

    private void nevers() {
        says("NEVER, as bits.");
        MarkedByNext x = school("d000", "a");
        due(27, "no CHANGES", x.never(), 0);
        for (int n = 1; n <= 8; n++) {
            x.change(0, 14, 15);
            due(27, n + " CHANGES, nothing SEEN", x.never(), (1 << n) - 1);
        }
        x.seen(29, 0, 0, 0);
        due(27, "SEEN as it is", x.never(), 255);
        x.seen(29, 0, 0, 1);
        due(27, "SEEN as it never is", x.never(), 0);
        x.wipe(0);
        due(27, "no BOYS", x.never(), 0);
        x.forget();
        due(27, "no BOYS, nothing SEEN", x.never(), 255);
    }

    /** Each sends the one who KNOWS 9 away on DAY 0 and back: but for one of them they are apart on DAY 0. */
    private void neverOfOne() {
        says("NEVER: CHANGES each of which, had it alone not been, makes all that was SEEN come out so, as bits.");
        for (int which = 0; which <= 7; which++) {
            School school = new School("d000;d900", "ab..");
            for (int i = 0; i < 8; i++) {
                school = i == which ? school.and(0, 1, 2) : school.and(0, 14, 15);
            }
            School together = school.saw(0, 0, 0, 1);
            due(27, "all but CHANGE " + which, school.saw(0, 0, 0, 0).made().never(), 255 ^ 1 << which);
            due(27, "CHANGE " + which + " alone", together.made().never(), 1 << which);
            due(27, "CHANGE " + which + " alone, by less told", Twins.never(together), 1 << which);
        }
        School two = new School("d000;d900", "ab..").and(0, 1, 2).and(0, 2, 3).saw(0, 0, 0, 1);
        due(27, "had it alone not been, the other is there", two.made().never(), 1);
        due(27, "the second alone: the third brings him back", two.and(0, 2, 1).made().never(), 2);
    }

    private void sorts() {
        says("SORT, as bits. BAD.");
        MarkedByNext x = school("c000;d000", "a");
        due(28, "BOY -1", x.sort(-1), BAD);
        due(28, "BOY 0", x.sort(0), 7);
        due(28, "BOY 1", x.sort(1), 7);
        due(28, "BOY 2 of two", x.sort(2), BAD);
        due(28, "BOY 8", x.sort(8), BAD);
        due(28, "the least", x.sort(LEAST), BAD);
        due(28, "the most", x.sort(MOST), BAD);
        says("SORT of a BOY: 0 c, 1 d, 2 b, in place of his own, likewise, as bits.");
        int[][] rows = {{0, 6}, {1, 1}, {2, 0}};
        for (int[] row : rows) {
            School alone = new School("b000", "a").saw(0, 0, 0, row[0]);
            due(28, "alone, SEEN with " + row[0], alone.made().sort(0), row[1]);
            due(28, "alone, SEEN with " + row[0] + ", by schools told so", Twins.sort(alone, 0), row[1]);
        }
        int[][] beside = {{0, 0}, {1, 1}, {2, 2 | 4}, {3, 0}};
        for (int[] row : beside) {
            School two = new School("c000;d900;d900", "bac").saw(0, 0, 0, row[0]);
            due(28, "two BESIDE, SEEN with " + row[0], two.made().sort(0), row[1]);
            due(28, "two BESIDE, SEEN with " + row[0] + ", by schools told so", Twins.sort(two, 0), row[1]);
            School brought = new School("c000;d900;d900", "b.c;a").and(0, 1, 3).saw(0, 0, 0, row[0]);
            due(28, "brought between them, SEEN with " + row[0], brought.made().sort(0), row[1]);
        }
    }

    private void firsts() {
        says("FIRST, as bits. BAD.");
        MarkedByNext x = school("c000;d000", "a");
        due(29, "BOY -1", x.first(-1, 0), BAD);
        due(29, "BOY 1", x.first(1, 0), 1023);
        due(29, "BOY 2 of two", x.first(2, 0), BAD);
        due(29, "SUBJECT -1", x.first(0, -1), BAD);
        due(29, "SUBJECT 2", x.first(0, 2), 1023);
        due(29, "SUBJECT 3", x.first(0, 3), BAD);
        due(29, "the least", x.first(LEAST, 0), BAD);
        due(29, "the most", x.first(0, MOST), BAD);
    }

    /** A dull one alone KNOWS what he KNEW; a clever one alone has 10 more behind DAY 29. */
    private void firstsAtTheirBounds() {
        says("FIRST of a BOY and a SUBJECT: 0 to 9, in place of what he KNOWS at first, likewise, as bits.");
        for (int subject = 0; subject <= 2; subject++) {
            for (int much : new int[] {0, 1, 8, 9, 10, 30}) {
                School school = new School("d555;c555", "a;b").saw(29, 0, subject, much);
                int want = much <= 9 ? 1 << much : 0;
                due(29, "SEEN with " + much, school.made().first(0, subject), want);
                due(29, "SEEN with " + much + ", by schools told so", Twins.first(school, 0, subject), want);
            }
            for (int much : new int[] {0, 9, 10, 11, 18, 19, 20, 30}) {
                School school = new School("d555;c555", "a;b").saw(29, 1, subject, much);
                int want = much >= 10 && much <= 19 ? 1 << much - 10 : 0;
                due(29, "clever, SEEN with " + much, school.made().first(1, subject), want);
                due(29, "clever, SEEN with " + much + ", by schools told so", Twins.first(school, 1, subject), want);
            }
        }
        School other = new School("d500", "a").saw(29, 0, 1, 0);
        due(29, "of another SUBJECT, as it is", other.made().first(0, 0), 1023);
    }

    private void asks() {
        says("ASK. BAD.");
        MarkedByNext x = school("c000;d000", "a");
        due(30, "BOY -1", x.ask(-1, 0), BAD);
        due(30, "BOY 1", x.ask(1, 0), 0);
        due(30, "BOY 2 of two", x.ask(2, 0), BAD);
        due(30, "SUBJECT -1", x.ask(0, -1), BAD);
        due(30, "SUBJECT 2", x.ask(0, 2), 0);
        due(30, "SUBJECT 3", x.ask(0, 3), BAD);
        due(30, "the least", x.ask(LEAST, 0), BAD);
        due(30, "the most", x.ask(0, MOST), BAD);
    }

    private void askIs(String what, School school, int boy, int subject, int day) {
        due(30, what, school.made().ask(boy, subject), day);
        due(30, what + ", by schools told so", Twins.ask(school, boy, subject), day);
    }

    private void daysToAsk() {
        says("the DAY behind which the greatest number of those of FIRST by which he KNOWS as much is least, of like ones"
                + " the least.");
        askIs("each is known by himself", new School("d000", "a"), 0, 0, 0);
        askIs("none is left", new School("d000", "a").saw(0, 0, 0, 30), 0, 0, 0);
        askIs("one is left", new School("d000", "a").saw(29, 0, 2, 9), 0, 2, 0);
        School threeSit = new School("b100;d000;d200", "abc");
        askIs("a later DAY", threeSit, 1, 0, 3);
        askIs("0, 1 and 2 are left", threeSit.saw(0, 1, 0, 2), 1, 0, 3);
        askIs("0 and 1 are left, which nothing parts", threeSit.saw(3, 1, 0, 2), 1, 0, 0);
        askIs("9 is left", threeSit.saw(29, 1, 0, 9), 1, 0, 0);
        figureNineCounts();
        School late = new School("c145;d407;b345;d368;b206;c261;b467;d058", "..d.;.ebc;.fha;g...")
                .and(27, 7, 10).and(13, 11, 2).and(6, 3, 9);
        askIs("the last LESSON of SUBJECT 0", late, 1, 0, 27);
        School other = new School("c541;d704;b543;d863;b602;c162;b764;d850", "..d.;.ebc;.fha;g...")
                .and(29, 7, 10).and(15, 11, 2).and(8, 3, 9);
        askIs("the same with SUBJECT 2: behind DAY 0 there was no LESSON of it", other, 1, 2, 0);
    }

    /**
     * By 7, 8 and 9 he KNOWS 9 behind DAY 0. By 9 alone the bully had then gained and KNOWS 10, so that behind DAY 3 he
     * KNOWS 9, 9, 10. Behind DAY 6 he KNOWS 10 by all three.
     */
    private void figureNineCounts() {
        School threeSit = new School("b800;d000;d900", "abc").saw(0, 1, 0, 9);
        due(29, "7, 8 and 9 are left", threeSit.made().first(1, 0), 128 + 256 + 512);
        askIs("7, 8 and 9 are left", threeSit, 1, 0, 3);
        askIs("9 alone is left", threeSit.saw(3, 1, 0, 10), 1, 0, 0);
        askIs("7 and 8 are left, which nothing parts", threeSit.saw(3, 1, 0, 9), 1, 0, 0);
    }

    private void lucksAsked() {
        says("LUCK: above, below. BAD. (As the least long.)");
        MarkedByNext x = school("d000;c900", "ab.");
        x.change(0, 1, 2);
        due(31, "what -1", x.luck(8, 0, -1), LONG_BAD);
        due(31, "above", x.luck(8, 0, 0), 1);
        due(31, "below", x.luck(8, 0, 1), 2);
        due(31, "what 2", x.luck(8, 0, 2), LONG_BAD);
        due(31, "BOY -1", x.luck(8, -1, 0), LONG_BAD);
        due(31, "BOY 1", x.luck(8, 1, 0), 1);
        due(31, "BOY 2 of two", x.luck(8, 2, 0), LONG_BAD);
        due(31, "c -1", x.luck(-1, 0, 0), LONG_BAD);
        due(31, "c 17", x.luck(17, 0, 0), LONG_BAD);
        due(31, "the least", x.luck(LEAST, 0, 0), LONG_BAD);
        due(31, "the most", x.luck(MOST, 0, 1), LONG_BAD);
        says("Where the answer is a long, a refusal -x is the least long and x more.");
        due(31, "no BOYS", new MarkedByNext().luck(0, 0, 0), -9223372036854775806L);
    }

    private void luckIs(String what, School school, int c, int boy, long above, long below) {
        MarkedByNext x = school.made();
        due(31, what + ": above", x.luck(c, boy, 0), above);
        due(31, what + ": below", x.luck(c, boy, 1), below);
        long[] twin = Twins.luck(school, c, boy);
        due(31, what + ": above, by less told", twin[0], above);
        due(31, what + ": below, by less told", twin[1], below);
    }

    private void sixteenths() {
        says("LUCK: each of CHANGES is by c sixteenths (0 to 16), by itself: the chance that a BOY is BEST: a FRACTION.");
        School one = new School("d000;c900", "ab.").and(0, 1, 2);
        luckIs("0 sixteenths", one, 0, 0, 0, 1);
        luckIs("0 sixteenths, the other one", one, 0, 1, 1, 1);
        luckIs("1 sixteenth", one, 1, 0, 1, 16);
        luckIs("1 sixteenth, the other one", one, 1, 1, 15, 16);
        luckIs("15 sixteenths", one, 15, 0, 15, 16);
        luckIs("16 sixteenths", one, 16, 0, 1, 1);
        luckIs("16 sixteenths, the other one", one, 16, 1, 0, 1);
        School none = new School("d000;c900", "ab.");
        for (int c = 0; c <= WAYS; c++) {
            luckIs("no CHANGES, c " + c, none, c, 0, 0, 1);
            luckIs("no CHANGES, c " + c, none, c, 1, 1, 1);
            luckIs("one BOY, one CHANGE, c " + c, new School("d000", "a.").and(0, 0, 1), c, 0, 1, 1);
        }
    }

    private void fractions() {
        says("FRACTIONS are told in lowest terms, above and below (0 by 1).");
        School one = new School("d000;c900", "ab.").and(0, 1, 2);
        long[][] terms = {{0, 0, 1}, {1, 1, 16}, {2, 1, 8}, {3, 3, 16}, {4, 1, 4}, {5, 5, 16}, {6, 3, 8}, {7, 7, 16},
            {8, 1, 2}, {9, 9, 16}, {10, 5, 8}, {11, 11, 16}, {12, 3, 4}, {13, 13, 16}, {14, 7, 8}, {15, 15, 16},
            {16, 1, 1}};
        for (long[] row : terms) {
            luckIs("c " + row[0], one, (int) row[0], 0, row[1], row[2]);
        }
        School never = one;
        for (int i = 1; i < 8; i++) {
            never = never.and(29, 14, 15);
        }
        luckIs("seven CHANGES that are nothing", never, 4, 0, 1, 4);
        luckIs("0 by 1, not by more", never, 0, 0, 0, 1);
    }

    /**
     * The clever one goes from SEAT 0 to SEAT 8, where the dull one is BESIDE, if all eight CHANGES are done; else he
     * stays where one was not done, and nobody has MARKS.
     */
    private void smallestFraction() {
        says("each of CHANGES is by c sixteenths (0 to 16), by itself");
        School way = new School("d000;c900", "b...;....;.a..");
        for (int seat = 0; seat < 8; seat++) {
            way = way.and(0, seat, seat + 1);
        }
        luckIs("all of eight by a sixteenth", way, 1, 1, 1, 4294967296L);
        luckIs("not all of eight", way, 1, 0, 4294967295L, 4294967296L);
        luckIs("all of eight by 15", way, 15, 1, 2562890625L, 4294967296L);
        luckIs("not all of eight by 15", way, 15, 0, 1732076671L, 4294967296L);
        luckIs("all of eight by a half", way, 8, 1, 1, 256);
        luckIs("all of eight for certain", way, 16, 1, 1, 1);
        luckIs("none of eight", way, 0, 1, 0, 1);
    }

    private void yearsAsked() {
        says("YEARS: FORM (what = 0), MARKS (1). BAD.");
        MarkedByNext x = school("d000;c900", "ab.");
        due(32, "n -1", x.years(1, -1, 0), BAD);
        due(32, "n 0", x.years(1, 0, 0), 18);
        due(32, "n 9", x.years(1, 9, 0), BAD);
        due(32, "what -1", x.years(1, 0, -1), BAD);
        due(32, "what 1", x.years(1, 0, 1), 9);
        due(32, "what 2", x.years(1, 0, 2), BAD);
        due(32, "the least", x.years(1, LEAST, 0), BAD);
        due(32, "the most", x.years(1, 0, MOST), BAD);
        says("n CHANGES (0 to 8), in place of those told");
        School school = new School(EIGHT_BOYS, SIXTEEN_SEATS).and(0, 0, 5).and(9, 1, 2);
        x = school.made();
        for (int n = 0; n <= 8; n++) {
            int[] twin = Twins.years(school, 40, n);
            due(32, "FORM by " + n, x.years(40, n, 0), twin[0]);
            due(32, "MARKS by " + n, x.years(40, n, 1), twin[1]);
        }
        due(39, "those told stay", x.count(4), 2);
    }

    private void noSeats() {
        says("(none where there are no SEATS)");
        MarkedByNext x = school("d123;c456", "");
        due(32, "FORM", x.years(7, 8, 0), 21);
        due(32, "MARKS", x.years(7, 8, 1), 0);
        due(32, "BENCHES with a FAULT", school("d123;c456", "ab;").years(7, 8, 0), 21);
        due(32, "no BOYS", school("", "....").years(7, 8, 0), 0);
        due(32, "n is asked first", x.years(7, 9, 0), BAD);
        says("two LOTS of SEATS (nothing, if they are one and the same)");
        x = school("c123", "a");
        for (int seed = -3; seed <= 3; seed++) {
            due(32, "one SEAT", x.years(seed, 8, 0), 36);
        }
        x = school("d000;c900", "a;b");
        for (int seed = -3; seed <= 3; seed++) {
            due(32, "two SEATS on two BENCHES", x.years(seed, 8, 0), 39);
        }
    }

    /** SEEDS of which the first LOTS are DAY 0 or 29, SEATS 0 and 15 or 15 and 0: by these two sit side by side. */
    private void lotsOfDaysAndSeats() {
        says("of each a LOT of 30 (its DAY), two LOTS of SEATS");
        MarkedByNext x = school("d000;d999", ".b..;....;....;...a");
        int[][] rows = {{-14811, 54, 27}, {-12273, 54, 27}, {-1504, 28, 1}, {-15469, 28, 1}};
        for (int[] row : rows) {
            due(32, "FORM by " + row[0], x.years(row[0], 1, 0), row[1]);
            due(32, "MARKS by " + row[0], x.years(row[0], 1, 1), row[2]);
        }
        due(32, "FORM without any", x.years(-1504, 0, 0), 27);
        due(32, "MARKS without any", x.years(-1504, 0, 1), 0);
    }

    private void seedsThatWrap() {
        says("SEED becomes 1103515245 SEED and 12345, as ints that wrap; its upper 16 bits as a number from 0 on,"
                + " modulo m.");
        School school = new School("d000;c900;b500", "ab.;c");
        School full = new School(EIGHT_BOYS, SIXTEEN_SEATS);
        int[] seeds = {0, 1, -1, 2, 31, 65535, 65536, -65536, MOST, MOST - 1, LEAST, LEAST + 1, 1103515245, -12345};
        for (int seed : seeds) {
            for (int n : new int[] {1, 2, 8}) {
                int[] twin = Twins.years(school, seed, n);
                int[] fullTwin = Twins.years(full, seed, n);
                due(32, "FORM by " + seed + " and " + n, school.made().years(seed, n, 0), twin[0]);
                due(32, "MARKS by " + seed + " and " + n, school.made().years(seed, n, 1), twin[1]);
                due(32, "FORM by " + seed + " and " + n + ", full", full.made().years(seed, n, 0), fullTwin[0]);
                due(32, "MARKS by " + seed + " and " + n + ", full", full.made().years(seed, n, 1), fullTwin[1]);
            }
        }
    }
}
