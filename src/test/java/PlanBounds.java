/** Promises 20 to 24: plans. */
final class PlanBounds extends Bounds {
    PlanBounds(Sayings sayings) {
        super(sayings);
    }

    @Override
    void all() {
        sitsAsked();
        sitsOfNobody();
        firstAndLastSeat();
        whoHasHis();
        tradesAsked();
        lessThanTwoSeats();
        tradesOfLikeOnes();
        whateverRoom();
        tradeBehindAllOthers();
        rushesAsked();
        bothHaveMore();
        moreBehindTheLastDay();
        firstAndLastTwo();
        tablesAsked();
        tablesOfLikeOnes();
        lastTable();
        sparesAsked();
        noneToTwo();
        sparesOfLikeOnes();
        thoseThatSitAsTold();
    }

    private void sitIs(String what, School school, int boy, int seat, int marks) {
        MarkedByNext x = school.made();
        due(20, what + ": which", x.sit(boy, 0), seat);
        due(20, what + ": how many", x.sit(boy, 1), marks);
        int[] twin = Twins.sit(school, boy);
        due(20, what + ": which, by schools told so", twin[0], seat);
        due(20, what + ": how many, by schools told so", twin[1], marks);
    }

    private void sitsAsked() {
        says("SIT: which (what = 0), how many (1); NONE. BAD.");
        MarkedByNext x = school("d000;c900", "a.b");
        due(20, "what -1", x.sit(1, -1), BAD);
        due(20, "which", x.sit(1, 0), 1);
        due(20, "how many", x.sit(1, 1), 9);
        due(20, "what 2", x.sit(1, 2), BAD);
        due(20, "BOY -1", x.sit(-1, 0), BAD);
        due(20, "BOY 2 of two", x.sit(2, 0), BAD);
        due(20, "BOY 7 of two", x.sit(7, 1), BAD);
        due(20, "the most", x.sit(MOST, 0), BAD);
        due(20, "the least", x.sit(0, LEAST), BAD);
        due(20, "no BOYS", new MarkedByNext().sit(0, 0), BAD);
    }

    private void sitsOfNobody() {
        says("which; how many; NONE: he sits nowhere as told");
        sitIs("no letter of his", new School("d000;c900", "a.."), 1, NONE, NONE);
        sitIs("no SEATS", new School("d000;c900", ""), 0, NONE, NONE);
        sitIs("one SEAT, his own", new School("d000;c900", "b"), 1, 0, 0);
        MarkedByNext x = school("d000;c900", "ab;");
        due(20, "BENCHES with a FAULT", x.sit(0, 0), NONE);
        due(20, "BENCHES with a FAULT", x.sit(0, 1), NONE);
        due(20, "BAD ahead of NONE", x.sit(0, 2), BAD);
    }

    private void firstAndLastSeat() {
        says("by which he has most MARKS behind DAY 29, of like ones the least");
        sitIs("all are like: SEAT 0", new School("c000", "....;....;....;...a"), 0, 0, 0);
        sitIs("two are like: the less", new School("d000;c900", "b...;....;....;..a."), 1, 13, 9);
        sitIs("SEAT 15 alone: two BESIDE the dull one", new School("d000;c900;c900", "b...;....;....;.ca."), 1, 15, 10);
        sitIs("SEAT 0 alone", new School("d000;c900;c900", ".ac.;....;....;...b"), 1, 0, 10);
        sitIs("his own, of two like ones", new School("d000;c900", "ba"), 1, 0, 9);
        School late = new School("d000;d001", "a;b;..").and(29, 0, 2).and(29, 1, 3);
        sitIs("by the LESSON of DAY 29 alone", late, 1, 0, 1);
    }

    private void whoHasHis() {
        says("the SEAT that he had better have from the beginning (who is told there has his)");
        sitIs("somebody is there", new School("d000;c900;c999", "ac;b"), 1, 1, 9);
        sitIs("a letter of nobody is there", new School("d000;c900", "ah;b"), 1, 1, 9);
        School moved = new School("d000;c900", "a.;b.").and(0, 2, 3).and(29, 1, 2);
        sitIs("with CHANGES from there on", moved, 1, 1, 9);
        sitIs("the SEAT from which he is brought there", new School("d000;d001", "a..;b").and(0, 2, 1), 1, 2, 1);
    }

    private void tradeIs(String what, School school, int day, int one, int other, int much) {
        MarkedByNext x = school.made();
        due(21, what + ": the first", x.trade(day, 0), one);
        due(21, what + ": the other one", x.trade(day, 1), other);
        due(21, what + ": how much", x.trade(day, 2), much);
        int[] twin = Twins.trade(school, day);
        due(21, what + ": the first, by CHANGES told", twin[0], one);
        due(21, what + ": the other one, by CHANGES told", twin[1], other);
        due(21, what + ": how much, by CHANGES told", twin[2], much);
    }

    private void tradesAsked() {
        says("TRADE: the first (what = 0), the other one (1), how much (2); NONE. BAD.");
        MarkedByNext x = school("d000;d900", "a.;b");
        due(21, "what -1", x.trade(0, -1), BAD);
        due(21, "the first", x.trade(0, 0), 1);
        due(21, "the other one", x.trade(0, 1), 2);
        due(21, "how much", x.trade(0, 2), 18);
        due(21, "what 3", x.trade(0, 3), BAD);
        due(21, "DAY -1", x.trade(-1, 0), BAD);
        due(21, "DAY 30", x.trade(30, 0), BAD);
        due(21, "how much on DAY 27", x.trade(27, 2), 10);
        due(21, "how much on DAY 28", x.trade(28, 2), 9);
        due(21, "how much on DAY 29", x.trade(29, 2), 9);
        due(21, "the first on DAY 29", x.trade(29, 0), 0);
        due(21, "the other one on DAY 29", x.trade(29, 1), 1);
    }

    private void lessThanTwoSeats() {
        says("the first; the other one; how much; NONE: there are less than two");
        tradeIs("no SEAT", new School("d000;c900", ""), 0, NONE, NONE, NONE);
        tradeIs("one SEAT", new School("d000;c900", "b"), 0, NONE, NONE, NONE);
        tradeIs("two SEATS", new School("d000;c900", "ab"), 0, 0, 1, 18);
        tradeIs("two SEATS on two BENCHES", new School("d000;c900", "a;b"), 0, 0, 1, 39);
        tradeIs("two SEATS, no BOYS", new School("", ".;."), 29, 0, 1, 0);
        MarkedByNext x = school("d000;c900", "ab;");
        due(21, "two, with a FAULT", x.trade(0, 0), NONE);
        due(21, "BAD ahead of NONE", x.trade(0, 3), BAD);
        due(21, "BAD ahead of NONE", x.trade(30, 0), BAD);
    }

    private void tradesOfLikeOnes() {
        says("by which FORM is most, of like ones the least row");
        tradeIs("all are like", new School("d000", "a...;....;....;...."), 0, 0, 1, 0);
        tradeIs("the last row of 16 SEATS", new School("b112;b112;d221;d220", "..b.;....;....;.adc"), 5, 14, 15, 46);
        tradeIs("0 and 2, 1 and 3 are like", new School("d000;d900", ".a;b."), 0, 0, 2, 18);
        tradeIs("together already: so they stay by 0 and 1", new School("d900;d000", "ab;.."), 0, 0, 1, 18);
        School worse = new School("b200;d400;c900;b000", "abcd");
        due(18, "as told", worse.made().form(), 48);
        tradeIs("any is worse than none: the best of them", worse, 0, 0, 1, 40);
        School worseLate = new School("b600;b500;b600;d900", "abcd");
        due(18, "as told", worseLate.made().form(), 69);
        tradeIs("any is worse than none, on DAY 2", worseLate, 2, 1, 3, 67);
        tradeIs("whoever is between the others", new School("d900;d000;d090", "bac"), 0, 0, 1, 54);
    }

    private void whateverRoom() {
        says("that had better CHANGE, behind all others of it (whatever room)");
        School school = new School("d000;d900", "a.;b");
        MarkedByNext x = school.made();
        for (int n = 0; n <= 8; n++) {
            due(39, n + " CHANGES", x.count(4), n);
            due(21, n + " CHANGES: the first", x.trade(0, 0), 1);
            due(21, n + " CHANGES: the other one", x.trade(0, 1), 2);
            due(21, n + " CHANGES: how much", x.trade(0, 2), 18);
            x.change(0, 14, 15);
        }
        due(39, "none has come by it", x.count(4), 8);
        due(18, "nor is it done", x.form(), 9);
        due(9, "and there is no room", x.change(0, 1, 2), FULL);
    }

    private void tradeBehindAllOthers() {
        says("TRADE on a DAY: the two SEATS (the first less)");
        School school = new School("d000;d900", "a...;b").and(3, 1, 4).and(3, 1, 3).and(4, 0, 2);
        tradeIs("on DAY 3 behind both of it, ahead of DAY 4", school, 3, 1, 3, 18);
        school = new School("d000;d900", "a.;b").and(3, 1, 2).and(3, 2, 1);
        tradeIs("they undo each other: then it is done", school, 3, 1, 2, 18);
        tradeIs("a DAY ahead of them", school, 2, 1, 2, 18);
    }

    private void rushIs(String what, School school, int one, int other) {
        MarkedByNext x = school.made();
        due(22, what + ": the one", x.rush(0), one);
        due(22, what + ": the other", x.rush(1), other);
        int[] twin = Twins.rush(school);
        due(22, what + ": the one, by schools told so", twin[0], one);
        due(22, what + ": the other, by schools told so", twin[1], other);
    }

    private void rushesAsked() {
        says("RUSH: the one (what = 0), the other (1); NONE. BAD.");
        MarkedByNext x = school("c900;c090;d900;d090", "ac;bd");
        due(22, "what -1", x.rush(-1), BAD);
        due(22, "the one", x.rush(0), 0);
        due(22, "the other", x.rush(1), 1);
        due(22, "what 2", x.rush(2), BAD);
        due(22, "the least", x.rush(LEAST), BAD);
        due(22, "the most", x.rush(MOST), BAD);
        says("the one; the other; NONE.");
        rushIs("no BOYS", new School("", "ab"), NONE, NONE);
        rushIs("one BOY", new School("c900", "a."), NONE, NONE);
        rushIs("no SEATS", new School("c900;c090", ""), NONE, NONE);
    }

    private void bothHaveMore() {
        says("that sit as told, and of whom both have more MARKS behind DAY 29");
        rushIs("both have more", new School("c900;c090;d900;d090", "ac;bd"), 0, 1);
        rushIs("both have as many", new School("c999;c999;d000;d000", "ac;bd"), NONE, NONE);
        rushIs("one has more, the other as many", new School("c000;d000;c900", "ab;.c"), NONE, NONE);
        rushIs("one sits nowhere", new School("c900;c090;d900;d090", "ac;.d"), NONE, NONE);
        MarkedByNext x = school("c900;c090;d900;d090", "ac;bd;");
        due(22, "BENCHES with a FAULT", x.rush(0), NONE);
        due(22, "BAD ahead of NONE", x.rush(2), BAD);
    }

    /** Schools in which a DAY less, a CHANGE less, or as many MARKS in place of more, would tell others. */
    private void moreBehindTheLastDay() {
        says("both have more MARKS behind DAY 29, if they have each other's SEATS from the beginning");
        rushIs("the one has more by DAY 29", new School("c010;c120;c221;c120", "db.;a.c").and(29, 0, 5), 1, 2);
        rushIs("the other has more by DAY 29", new School("b212;c000;c100;d210", "c.a;db.").and(29, 4, 1), 0, 1);
        rushIs("the one had as many by DAY 29", new School("d211;c102;b020", "ba.;..c").and(29, 4, 0), NONE, NONE);
        School other = new School("c102;d220;b002", "b.c;a..").and(19, 2, 5).and(29, 0, 4);
        rushIs("the other had as many by DAY 29", other, NONE, NONE);
        rushIs("the other has as many", new School("d022;d102;b100", "..a;.cb").and(23, 5, 0), NONE, NONE);
        School changed = new School("c121;b122;d201", ".b.;.ac").and(17, 4, 0).and(29, 0, 4);
        rushIs("with CHANGES from there on", changed, 0, 1);
    }

    private void firstAndLastTwo() {
        says("RUSH: the least two BOYS (the first less)");
        rushIs("0 and 1, though 2 and 3 would too", new School("c900;c090;d900;d090", "ac;bd"), 0, 1);
        rushIs("0 and 6, ahead of 0 and 7", new School("c900;d000;d000;d000;d000;d900;d090;c090", "af;hg"), 0, 6);
        rushIs("6 and 7", new School("b976;b226;d889;b296;c822;d346;b210;b296", "ba..;..hf;..ge;.c.d"), 6, 7);
    }

    private void tableIs(String what, School school, int much, int... order) {
        MarkedByNext x = school.made();
        int[] twin = Twins.table(school);
        due(23, what + ": how much", x.table(-1), much);
        due(23, what + ": how much, by SUBJECTS told so", twin[0], much);
        for (int i = 0; i < 3; i++) {
            due(23, what + ": the one at " + i, x.table(i), order[i]);
            due(23, what + ": the one at " + i + ", by SUBJECTS told so", twin[i + 1], order[i]);
        }
    }

    private void tablesAsked() {
        says("TABLE: how much (i = NONE), the i-th (0 to 2). BAD.");
        MarkedByNext x = school("d000;d010", "a.;b");
        due(23, "i -2", x.table(-2), BAD);
        due(23, "i -1", x.table(-1), 1);
        due(23, "i 0", x.table(0), 0);
        due(23, "i 1", x.table(1), 1);
        due(23, "i 2", x.table(2), 2);
        due(23, "i 3", x.table(3), BAD);
        due(23, "the least", x.table(LEAST), BAD);
        due(23, "the most", x.table(MOST), BAD);
    }

    private void tablesOfLikeOnes() {
        says("so that FORM is most, of like ones the least: the i-th; how much");
        tableIs("no BOYS", new School("", ""), 0, 0, 1, 2);
        tableIs("no SEATS", new School(EIGHT_BOYS, ""), 100, 0, 1, 2);
        tableIs("all are like", new School("d000;c900", "ab"), 18, 0, 1, 2);
    }

    /** They sit side by side on DAY 0 alone, or on DAY 1, or on DAY 2: what is taught then is all that is gained. */
    private void lastTable() {
        says("in which order SUBJECTS 0 to 2 had better be taught on DAYS that leave 0, 1, 2 by 3");
        School onDay0 = new School("d000;d001", "ab.").and(1, 1, 2);
        tableIs("SUBJECT 2 on DAY 0: of two the less", onDay0, 2, 2, 0, 1);
        tableIs("SUBJECT 1 on DAY 0: of two the less", new School("d000;d010", "ab.").and(1, 1, 2), 2, 1, 0, 2);
        School onDay1 = new School("d000;d001", "a.b").and(1, 1, 2).and(2, 1, 2);
        tableIs("SUBJECT 2 on DAY 1: of two the less", onDay1, 2, 0, 2, 1);
        School onDay2 = new School("d000;d001", "a.b").and(2, 1, 2).and(3, 1, 2);
        tableIs("SUBJECT 2 on DAY 2: as it is", onDay2, 2, 0, 1, 2);
        School onTwo = new School("d000;d002;d010", "ab.;c").and(1, 1, 3).and(2, 1, 2);
        tableIs("SUBJECT 2 on DAY 0, SUBJECT 1 on DAY 1", onTwo, 5, 2, 1, 0);
        School otherTwo = new School("d000;d020;d001", "ab.;c").and(1, 1, 3).and(2, 1, 2);
        tableIs("SUBJECT 1 on DAY 0, SUBJECT 2 on DAY 1", otherTwo, 5, 1, 2, 0);
    }

    private void spareIs(String what, School school, int number, int first, int second) {
        MarkedByNext x = school.made();
        due(24, what + ": how many", x.spare(-1), number);
        due(24, what + ": the first", x.spare(0), first);
        due(24, what + ": the second", x.spare(1), second);
        int[] twin = Twins.spare(school);
        due(24, what + ": how many, by less told", twin[0], number);
        due(24, what + ": the first, by less told", twin[1], first);
        due(24, what + ": the second, by less told", twin[2], second);
    }

    private void sparesAsked() {
        says("SPARE: how many (i = NONE), the i-th (0, 1; NONE); NONE. BAD.");
        MarkedByNext x = school("d000;d900", "ab");
        due(24, "i -2", x.spare(-2), BAD);
        due(24, "i -1", x.spare(-1), NONE);
        due(24, "i 0", x.spare(0), NONE);
        due(24, "i 1", x.spare(1), NONE);
        due(24, "i 2", x.spare(2), BAD);
        due(24, "the least", x.spare(LEAST), BAD);
        due(24, "the most", x.spare(MOST), BAD);
    }

    /**
     * A dull one and a clever one side by side: the clever one is IDLE, but for a DAY on which he is sent off to the
     * last SEAT; if he is sent off on DAY 0, to the SEAT ahead of that, the dull one is IDLE.
     */
    private void noneToTwo() {
        says("the fewest CHANGES (0 to 2) that had better not be");
        spareIs("none is needed, there is none", new School("c000;c000", "a;b"), 0, NONE, NONE);
        School side = new School("d000;c900;d000;c900;d000;c900", "ab..;cd..;ef..");
        spareIs("one is IDLE, there is none that may be spared", side, NONE, NONE, NONE);
        School none = side.and(29, 1, 3).and(29, 5, 7).and(29, 9, 11);
        spareIs("none is needed, there are three", none, 0, NONE, NONE);
        School one = none.and(0, 1, 2);
        spareIs("one of four, the last", one, 1, 3, NONE);
        School two = one.and(0, 5, 6);
        spareIs("two of five, the last two", two, 2, 3, 4);
        School three = two.and(0, 9, 10);
        spareIs("three of six would be needed", three, NONE, NONE, NONE);
    }

    /** CHANGES of SEATS that are not there, so many. */
    private static School idly(School school, int number) {
        School more = school;
        for (int i = 0; i < number; i++) {
            more = more.and(0, 14, 15);
        }
        return more;
    }

    private void sparesOfLikeOnes() {
        says("of like ones the least row (each more than the one ahead): how many; the i-th; NONE");
        School side = new School("d000;c900;d000;c900", "ab..;cd..");
        School sent = side.and(29, 5, 7).and(29, 1, 3);
        spareIs("either of two: the first", sent.and(29, 1, 3), 1, 1, NONE);
        spareIs("none of eight", idly(sent, 6), 0, NONE, NONE);
        spareIs("2 of eight", idly(sent.and(0, 1, 2), 5), 1, 2, NONE);
        spareIs("7 of eight", idly(sent, 5).and(0, 1, 2), 1, 7, NONE);
        spareIs("0 of eight", idly(side.and(0, 1, 2).and(29, 5, 7).and(29, 1, 3), 5), 1, 0, NONE);
        spareIs("0 and 1 of eight", idly(side.and(0, 1, 2).and(0, 5, 6).and(29, 1, 3).and(29, 5, 7), 4), 2, 0, 1);
        spareIs("6 and 7 of eight", idly(sent, 4).and(0, 1, 2).and(0, 5, 6), 2, 6, 7);
        spareIs("0 and 7 of eight", idly(side.and(0, 1, 2).and(29, 1, 3).and(29, 5, 7), 4).and(0, 5, 6), 2, 0, 7);
    }

    private void thoseThatSitAsTold() {
        says("so that nobody that sits as told is IDLE");
        spareIs("no BOYS", new School("", "ab"), 0, NONE, NONE);
        spareIs("who sits nowhere may be IDLE", new School("d000;c900", "b"), 0, NONE, NONE);
        spareIs("who sits may not", new School("d000;c900", "b;a"), NONE, NONE, NONE);
        spareIs("the last BOY too", new School("c000;c000;c000;c000;c000;c000;c000;d000", "h"), NONE, NONE, NONE);
        MarkedByNext x = school("d000;c900", "b;a;");
        due(24, "BENCHES with a FAULT: nobody sits", x.spare(-1), 0);
        due(24, "BENCHES with a FAULT: nobody sits", x.spare(0), NONE);
    }
}
