/** Promises 12 to 19: what is behind each DAY. */
final class DayBounds extends Bounds {
    DayBounds(Sayings sayings) {
        super(sayings);
    }

    @Override
    void all() {
        daysAsked();
        subjectsOfDays();
        ats();
        knowns();
        sitting();
        ghostsAsked();
        endsOfBenches();
        gainsOfThoseThatSit();
        gainsOfDull();
        gainsOfClever();
        gainsOfBullies();
        mostKnown();
        marksOfKinds();
        ghostsBehindTheLastDay();
        mastersFound();
        mastersOfLikeOnes();
        bests();
        forms();
        idles();
    }

    private void daysAsked() {
        says("DAYS are 0 to 29.");
        MarkedByNext x = school("c000;d900", "ab");
        for (int day : new int[] {LEAST, -1, 30, 31, MOST}) {
            due(12, "at, DAY " + day, x.at(day, 0, 0), BAD);
            due(13, "knows, DAY " + day, x.knows(day, 0, 0), BAD);
            due(14, "sits, DAY " + day, x.sits(day, 0), BAD);
            due(21, "trade, DAY " + day, x.trade(day, 0), BAD);
            due(25, "seen, DAY " + day, x.seen(day, 0, 0, 0), BAD);
        }
        for (int day : new int[] {0, 1, 28, 29}) {
            due(12, "at, DAY " + day, x.at(day, 0, 0), 0);
            due(13, "knows, DAY " + day, x.knows(day, 0, 0), Math.min(1 + day / 3, 9));
            due(14, "sits, DAY " + day, x.sits(day, 0), 0);
            due(21, "trade, DAY " + day, x.trade(day, 0), 0);
        }
        due(25, "seen, DAY 0", x.seen(0, 0, 0, 0), 1);
        due(25, "seen, DAY 29", x.seen(29, 0, 0, 0), 2);
    }

    /** A clever one alone has a GAIN of 1 on each DAY, so what he KNOWS counts the LESSONS of each SUBJECT. */
    private void subjectsOfDays() {
        says("Then there is a LESSON of the SUBJECT that is the DAY by 3 left over.");
        MarkedByNext x = school("c000", "a");
        for (int day = 0; day <= 29; day++) {
            due(13, "SUBJECT 0 behind DAY " + day, x.knows(day, 0, 0), day / 3 + 1);
            due(13, "SUBJECT 1 behind DAY " + day, x.knows(day, 0, 1), (day + 2) / 3);
            due(13, "SUBJECT 2 behind DAY " + day, x.knows(day, 0, 2), (day + 1) / 3);
        }
        due(18, "30 LESSONS", x.form(), 30);
    }

    private void ats() {
        says("His SEAT (what = 0; NONE), MARKS (1), GAIN (2). BAD.");
        MarkedByNext x = school("d000;c900;c123", "ab");
        due(12, "what -1", x.at(0, 0, -1), BAD);
        due(12, "SEAT", x.at(0, 1, 0), 1);
        due(12, "MARKS", x.at(0, 1, 1), 1);
        due(12, "GAIN", x.at(0, 0, 2), 1);
        due(12, "what 3", x.at(0, 0, 3), BAD);
        due(12, "the most", x.at(0, 0, MOST), BAD);
        due(12, "BOY -1", x.at(0, -1, 0), BAD);
        due(12, "BOY 3 of three", x.at(0, 3, 0), BAD);
        due(12, "BOY 7 of three", x.at(0, 7, 0), BAD);
        says("his SEAT (NONE: he sits nowhere)");
        due(12, "BOY 2 behind DAY 0", x.at(0, 2, 0), NONE);
        due(12, "BOY 2 behind DAY 29", x.at(29, 2, 0), NONE);
        due(12, "he has no MARKS", x.at(29, 2, 1), 0);
        due(12, "he has no GAIN", x.at(29, 2, 2), 0);
        due(13, "he KNOWS what he KNEW", x.knows(29, 2, 2), 3);
    }

    private void knowns() {
        says("What he KNOWS. BAD.");
        MarkedByNext x = school("d012;d345", "a;b");
        due(13, "SUBJECT -1", x.knows(0, 0, -1), BAD);
        due(13, "SUBJECT 0", x.knows(0, 1, 0), 3);
        due(13, "SUBJECT 2", x.knows(0, 1, 2), 5);
        due(13, "SUBJECT 3", x.knows(0, 0, 3), BAD);
        due(13, "the most", x.knows(0, 0, MOST), BAD);
        due(13, "BOY -1", x.knows(0, -1, 0), BAD);
        due(13, "BOY 0", x.knows(0, 0, 1), 1);
        due(13, "BOY 2 of two", x.knows(0, 2, 0), BAD);
        due(13, "the least", x.knows(0, LEAST, 0), BAD);
    }

    private void sitting() {
        says("Of a SEAT: who sits in it; NONE.");
        MarkedByNext gone = school("c000", "a.");
        gone.change(1, 0, 1);
        due(14, "told there", gone.sits(0, 0), 0);
        due(14, "gone from there", gone.sits(1, 0), NONE);
        due(14, "nobody told there", gone.sits(0, 1), NONE);
        due(14, "come there", gone.sits(29, 1), 0);
        says("Who sits in it; NONE. BAD.");
        MarkedByNext x = school("c000;c000", "a.;b");
        due(14, "SEAT -1", x.sits(0, -1), BAD);
        due(14, "SEAT 0", x.sits(0, 0), 0);
        due(14, "SEAT 1", x.sits(0, 1), NONE);
        due(14, "SEAT 2", x.sits(0, 2), 1);
        due(14, "SEAT 3 of three", x.sits(0, 3), BAD);
        due(14, "SEAT 15 of three", x.sits(0, 15), BAD);
        due(14, "SEAT 16", x.sits(0, 16), BAD);
        x = school("", "....;....;....;....");
        due(14, "SEAT 15 of 16", x.sits(29, 15), NONE);
        due(14, "SEAT 16 of 16", x.sits(29, 16), BAD);
    }

    private void ghostsAsked() {
        says("GHOST. BAD.");
        MarkedByNext x = school("c000", "a.;.");
        due(15, "SEAT -1", x.ghost(-1), BAD);
        due(15, "SEAT 0", x.ghost(0), 0);
        due(15, "SEAT 1", x.ghost(1), 30);
        due(15, "SEAT 2", x.ghost(2), 0);
        due(15, "SEAT 3 of three", x.ghost(3), BAD);
        due(15, "the most", x.ghost(MOST), BAD);
        x = school("c000", "....;....;....;..a.");
        due(15, "SEAT 15 of 16", x.ghost(15), 30);
        due(15, "SEAT 16 of 16", x.ghost(16), BAD);
        due(39, "GHOSTS of SEATS 13 and 15", x.count(6), 60);
        due(39, "the GHOST of SEAT 0 too", school("c000", ".a").count(6), 30);
    }

    private void endsOfBenches() {
        says("BESIDE a SEAT are those next to it on its BENCH.");
        MarkedByNext x = school("c000;c000", "...a;b...");
        due(12, "a last SEAT, a first SEAT behind it", x.at(0, 0, 2), 1);
        due(12, "a first SEAT, a last SEAT ahead of it", x.at(0, 1, 2), 1);
        due(15, "next to the last SEAT", x.ghost(2), 30);
        due(15, "next to the first SEAT", x.ghost(5), 30);
        due(15, "two off", x.ghost(1), 0);
        x = school("c000;c000", "a...;....;....;...b");
        due(12, "SEAT 0", x.at(29, 0, 2), 1);
        due(12, "SEAT 15", x.at(29, 1, 2), 1);
        due(15, "SEAT 1", x.ghost(1), 30);
        due(15, "SEAT 14", x.ghost(14), 30);
        due(39, "no other", x.count(6), 60);
        x = school("c000;c000", "a.b");
        due(12, "a SEAT between them", x.at(0, 0, 2), 1);
        due(15, "it has both", x.ghost(1), 60);
        x = school("c000;c000", "ab");
        due(12, "side by side", x.at(0, 0, 2), 0);
    }

    private void gainsOfThoseThatSit() {
        says("The GAIN of a BOY that sits, all at once, by what all KNOW of it ahead of that");
        MarkedByNext x = school("c000;c000", "b");
        due(12, "one that sits", x.at(0, 1, 2), 1);
        due(12, "one that does not, clever and with nobody BESIDE", x.at(0, 0, 2), 0);
        due(13, "he KNOWS what he KNEW", x.knows(29, 0, 0), 0);
        x = school("d000;d100;d200;d300", "abcd");
        due(13, "each by the one BESIDE as he was: BOY 0", x.knows(0, 0, 0), 1);
        due(13, "each by the one BESIDE as he was: BOY 1", x.knows(0, 1, 0), 2);
        due(13, "each by the one BESIDE as he was: BOY 2", x.knows(0, 2, 0), 3);
        due(13, "nobody KNOWS more than BOY 3", x.knows(0, 3, 0), 3);
        x = school("d100;b000", "ab");
        due(13, "the bully has 2 behind it", x.knows(0, 1, 0), 2);
        due(13, "the dull one nothing by these 2 yet", x.knows(2, 0, 0), 1);
        due(13, "but in the next LESSON", x.knows(3, 0, 0), 2);
    }

    private static int gain(String boys, String benches) {
        return school(boys, benches).at(0, 0, 2);
    }

    private void gainsOfDull() {
        says("of a dull one how many sit BESIDE who KNOW more");
        due(12, "alone", gain("d500", "a"), 0);
        due(12, "one with 1 less", gain("d500;d400", "ab"), 0);
        due(12, "one with as much", gain("d500;d500", "ab"), 0);
        due(12, "one with 1 more", gain("d500;d600", "ab"), 1);
        due(12, "one with 1 more, on the other side", gain("d500;d600", "ba"), 1);
        due(12, "one more, one as much", gain("d500;d600;d500", "bac"), 1);
        due(12, "two with more", gain("d500;d600;d900", "bac"), 2);
        due(12, "of another SUBJECT", gain("d500;d599", "ab"), 0);
        due(12, "two off", gain("d500;d500;d900", "abc"), 0);
    }

    private void gainsOfClever() {
        says("of a clever one 1, if nobody sits BESIDE, or somebody that KNOWS more");
        due(12, "alone", gain("c500", "a"), 1);
        due(12, "alone, with 9", gain("c900", ".a."), 1);
        due(12, "one with 1 less", gain("c500;d400", "ab"), 0);
        due(12, "one with as much", gain("c500;d500", "ab"), 0);
        due(12, "one with 1 more", gain("c500;d600", "ab"), 1);
        due(12, "two with more", gain("c500;d600;d600", "bac"), 1);
        due(12, "one more, one less", gain("c500;d600;d400", "bac"), 1);
        due(12, "nobody on one side", gain("c500;d500", ".ab"), 0);
    }

    private void gainsOfBullies() {
        says("of a bully 2, if somebody sits BESIDE who KNOWS more; else 0");
        due(12, "alone", gain("b500", "a"), 0);
        due(12, "one with 1 less", gain("b500;d400", "ab"), 0);
        due(12, "one with as much", gain("b500;d500", "ab"), 0);
        due(12, "one with 1 more", gain("b500;d600", "ab"), 2);
        due(12, "two with more", gain("b500;d600;d600", "bac"), 2);
        due(12, "one more, one less", gain("b500;d600;d400", "bac"), 2);
    }

    /**
     * Nobody comes to 30: who has a GAIN of 2 has it of somebody that KNOWS more, so in a LESSON the most that anybody
     * KNOWS becomes more by 1 at most: 9 at first, 19 behind 10 LESSONS. What a test can see is that all up to 19 is
     * whole.
     */
    private void mostKnown() {
        says("but less, where he would KNOW more than 30 then. He KNOWS so much more of it.");
        MarkedByNext x = school("c999", "a");
        due(13, "9 and 10 LESSONS", x.knows(29, 0, 0), 19);
        due(12, "the last GAIN is whole", x.at(29, 0, 2), 1);
        x = school("b900;b900;c900", "ab;c");
        x.change(3, 0, 2);
        x.change(4, 0, 2);
        due(13, "a bully beside one with 10", x.knows(3, 1, 0), 11);
        due(13, "and so on, by turns", x.knows(29, 1, 0), 11);
        due(13, "the other one, then", x.knows(6, 0, 0), 11);
    }

    private void marksOfKinds() {
        says("MARKS of a BOY become more by GAINS of those who sit BESIDE, a bully's by twice these");
        due(12, "a clever one's", school("c900;d000", "ab").at(0, 0, 1), 1);
        due(12, "a dull one's", school("d900;d000", "ab").at(0, 0, 1), 1);
        due(12, "a bully's", school("b900;d000", "ab").at(0, 0, 1), 2);
        due(12, "a bully's, by a bully", school("b900;b000", "ab").at(0, 0, 1), 4);
        due(12, "a bully's, by two bullies", school("b900;b000;b000", "bac").at(0, 0, 1), 8);
        due(12, "no GAIN BESIDE", school("b900;d900", "ab").at(29, 0, 1), 0);
        due(12, "nobody BESIDE", school("c900", "a").at(29, 0, 1), 0);
        due(12, "not by his own GAIN", school("d000;d900", "ab").at(29, 0, 1), 0);
    }

    /** A clever one alone on SEAT 0; on some DAY the other one comes to SEAT 1, and it is no longer empty. */
    private void ghostsBehindTheLastDay() {
        says("GHOST of a SEAT behind DAY 29.");
        for (int day : new int[] {0, 1, 15, 28, 29}) {
            MarkedByNext x = school("c000;d000", "a.;b");
            x.change(day, 1, 2);
            due(15, "empty up to DAY " + day, x.ghost(1), day);
            due(15, "left on DAY " + day, x.ghost(2), 0);
            due(39, "of all", x.count(6), day);
        }
        says("where nobody sits, these are for the SEAT: its GHOST");
        MarkedByNext x = school("c000;c000", "a.b");
        due(15, "the SEAT between", x.ghost(1), 60);
        x.change(29, 1, 2);
        due(15, "somebody has come: 29 DAYS", x.ghost(1), 58);
        due(15, "the SEAT that is empty now, no GAIN BESIDE", x.ghost(2), 0);
        x = school("b000;d900", ".ab.");
        due(15, "a bully's GAIN, once", x.ghost(0), 10);
        due(15, "the dull one's GAIN, when the bully has 10", x.ghost(3), 1);
    }

    private void mastersFound() {
        says("the first DAY behind which a BOY KNOWS as much as MASTERS of a SUBJECT");
        MarkedByNext x = school("c900", "a");
        int[][] dayOf = {{1, 0}, {9, 0}, {10, 0}, {11, 3}, {12, 6}, {18, 24}, {19, 27}, {20, NONE}, {30, NONE}};
        for (int[] row : dayOf) {
            x.masters(row[0]);
            due(16, "so much as " + row[0] + ", DAY", x.master(0), row[1]);
            due(16, "so much as " + row[0] + ", BOY", x.master(1), row[1] == NONE ? NONE : 0);
            due(16, "so much as " + row[0] + ", SUBJECT", x.master(2), row[1] == NONE ? NONE : 0);
        }
        x = school("c008", "a");
        x.masters(18);
        due(16, "the last DAY", x.master(0), 29);
        due(16, "the last SUBJECT", x.master(2), 2);
        x.masters(19);
        due(16, "one more", x.master(0), NONE);
        x = new MarkedByNext();
        x.masters(1);
        due(16, "no BOYS", x.master(0), NONE);
        due(16, "no BOYS", x.master(1), NONE);
        due(16, "no BOYS", x.master(2), NONE);
        says("MASTER: the DAY (what = 0), the BOY (1), the SUBJECT (2); NONE. BAD.");
        due(16, "what -1", x.master(-1), BAD);
        due(16, "what 3", x.master(3), BAD);
        due(16, "the least", x.master(LEAST), BAD);
        due(16, "the most", x.master(MOST), BAD);
    }

    private void mastersOfLikeOnes() {
        says("the least such BOY; the least SUBJECT; NONE.");
        MarkedByNext x = school("d000;d000;d000;d000;d000;d000;d009;d090", "");
        x.masters(9);
        due(16, "the least BOY", x.master(1), 6);
        due(16, "his SUBJECT, though it is not the least of all", x.master(2), 2);
        x = school("d000;d000;d000;d000;d000;d000;d000;d099", "");
        x.masters(9);
        due(16, "the last BOY", x.master(1), 7);
        due(16, "the least of his SUBJECTS", x.master(2), 1);
        x = school("c080;c700", "a;b");
        x.masters(9);
        due(16, "the DAY ahead of the BOY", x.master(0), 1);
        due(16, "the DAY ahead of the BOY", x.master(1), 0);
        x.masters(8);
        due(16, "DAY 0 by either", x.master(0), 0);
        due(16, "DAY 0 by either: the least BOY", x.master(1), 0);
        due(16, "DAY 0 by either: his SUBJECT", x.master(2), 1);
        x = school("c700;c080", "a;b");
        x.masters(9);
        due(16, "the second BOY's DAY is less", x.master(0), 1);
        due(16, "the second BOY's DAY is less", x.master(1), 1);
    }

    private void bests() {
        says("who has most MARKS behind DAY 29, of like ones the least; NONE: there are no BOYS");
        due(17, "no BOYS", new MarkedByNext().best(), NONE);
        due(17, "no BOYS, but SEATS", school("", "ab").best(), NONE);
        due(17, "one BOY who sits nowhere", school("c000", "").best(), 0);
        due(17, "eight, none with MARKS", school(EIGHT_BOYS, "").best(), 0);
        String seven = "d000;d000;d000;d000;d000;d000;d000;";
        due(17, "the last one", school(seven + "c100", "ah").best(), 7);
        due(17, "two like ones", school("d000;c100;d000;c100", "ab;cd").best(), 1);
        due(17, "the second has one more", school("d000;c100;d000;c200", "ab;cd").best(), 3);
        MarkedByNext x = school("d000;c001", "a.;b");
        x.change(29, 1, 2);
        due(17, "by the LESSON of DAY 29", x.best(), 1);
        MarkedByNext y = school("d001;d100;d000;d000", "a;c.;bd");
        due(17, "one MARK of DAY 0", y.best(), 1);
        due(39, "one MARK of DAY 0", y.count(5), 1);
        y.change(29, 0, 2);
        due(17, "another's of DAY 29: of like ones the least", y.best(), 0);
        due(39, "a MARK of DAY 29 too", y.count(5), 2);
        says("BEST; NONE.");
        x.undo(0);
        due(17, "no BOYS by a FAULT", x.best(), NONE);
    }

    private void forms() {
        says("FORM: what all KNOW of all behind DAY 29, together.");
        due(18, "no BOYS", new MarkedByNext().form(), 0);
        due(18, "nothing", school("d000", "a").form(), 0);
        due(18, "the most at first", school("d999;d999;d999;d999;d999;d999;d999;d999", "").form(), 216);
        due(18, "and 30 more by each of four alone",
                school("c999;c999;c999;c999;d999;d999;d999;d999", "a;b;c;d").form(), 336);
        MarkedByNext x = school("d000;d001", "a.;b");
        due(18, "apart", x.form(), 1);
        x.change(29, 1, 2);
        due(18, "the LESSON of DAY 29 too", x.form(), 2);
        says("`int form()`: FORM.");
        x.wipe(0);
        due(18, "no BOYS again", x.form(), 0);
    }

    private void idles() {
        says("IDLE: BOYS that never had a GAIN, as bits.");
        due(19, "no BOYS", new MarkedByNext().idle(), 0);
        due(19, "one", school("c000", "").idle(), 1);
        due(19, "eight", school(EIGHT_BOYS, "").idle(), 255);
        due(19, "all but the first", school(EIGHT_BOYS, "a").idle(), 254);
        due(19, "all but the last", school(EIGHT_BOYS, "h").idle(), 127);
        due(19, "none", school("c000;c000", "a;b").idle(), 0);
        MarkedByNext x = school("d000;d001", "a.;b");
        due(19, "apart", x.idle(), 3);
        x.change(29, 1, 2);
        due(19, "a GAIN of DAY 29 alone", x.idle(), 2);
        x = school("d000;d100", "ab");
        due(12, "a GAIN of DAY 0", x.at(0, 0, 2), 1);
        due(12, "and none behind it", x.at(3, 0, 2), 0);
        due(19, "a GAIN of DAY 0 alone", x.idle(), 2);
        says("IDLE, as bits.");
        x.wipe(1);
        due(19, "nobody sits", x.idle(), 3);
    }
}
