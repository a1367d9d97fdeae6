/** Promises 9 to 11: CHANGES told, undone, and read from SHEETS. */
final class ChangeBounds extends Bounds {
    ChangeBounds(Sayings sayings) {
        super(sayings);
    }

    @Override
    void all() {
        daysOfChanges();
        seatsOfChanges();
        numberOfChanges();
        changesBack();
        seatsNotThere();
        firstAndLastDay();
        changesOfOneDay();
        sheetsRead();
        wholeOnes();
        onesThatMayBe();
        formsRead();
        readUpToEight();
    }

    private void daysOfChanges() {
        says("DAYS are 0 to 29.");
        MarkedByNext x = new MarkedByNext();
        due(9, "DAY -1", x.change(-1, 0, 1), BAD);
        due(9, "DAY 0", x.change(0, 0, 1), 1);
        due(9, "DAY 1", x.change(1, 0, 1), 2);
        due(9, "DAY 28", x.change(28, 0, 1), 3);
        due(9, "DAY 29", x.change(29, 0, 1), 4);
        due(9, "DAY 30", x.change(30, 0, 1), BAD);
        due(9, "the least", x.change(LEAST, 0, 1), BAD);
        due(9, "the most", x.change(MOST, 0, 1), BAD);
        due(39, "four came", x.count(4), 4);
    }

    private void seatsOfChanges() {
        says("on a DAY two SEATS (0 to 15, not one and the same)");
        MarkedByNext x = new MarkedByNext();
        due(9, "-1", x.change(5, -1, 7), BAD);
        due(9, "16", x.change(5, 16, 7), BAD);
        due(9, "other -1", x.change(5, 7, -1), BAD);
        due(9, "other 16", x.change(5, 7, 16), BAD);
        due(9, "the least and the most", x.change(5, LEAST, MOST), BAD);
        for (int seat = 0; seat <= 15; seat++) {
            due(9, seat + " and itself", x.change(5, seat, seat), BAD);
        }
        due(9, "-1 and itself", x.change(5, -1, -1), BAD);
        due(39, "none came", x.count(4), 0);
        due(9, "0 and 15", x.change(5, 0, 15), 1);
        due(9, "15 and 0", x.change(5, 15, 0), 2);
        due(9, "14 and 15", x.change(5, 14, 15), 3);
        due(9, "1 and 0", x.change(5, 1, 0), 4);
    }

    private void numberOfChanges() {
        says("CHANGES, 8 at most (0 on)");
        MarkedByNext x = new MarkedByNext();
        for (int n = 1; n <= 8; n++) {
            due(9, "CHANGE " + n, x.change(n, 0, 1), n);
            due(39, "so many", x.count(4), n);
        }
        due(9, "a ninth", x.change(9, 0, 1), FULL);
        due(39, "no ninth", x.count(4), 8);
        due(10, "one less", x.back(), 7);
        due(9, "an eighth", x.change(9, 0, 1), 8);
        due(9, "a ninth", x.change(9, 0, 1), FULL);
        says("A CHANGE more: how many. BAD; FULL.");
        due(9, "BAD ahead of FULL, DAY", x.change(30, 0, 1), BAD);
        due(9, "BAD ahead of FULL, SEATS", x.change(9, 1, 1), BAD);
        due(27, "CHANGES 0 to 7, as bits", x.never(), 255);
        x.back();
        due(27, "CHANGES 0 to 6, as bits", x.never(), 127);
    }

    private void changesBack() {
        says("The last CHANGE is undone: how many are left. NOT: there is none.");
        MarkedByNext x = school("c000;c000", "a.;b");
        due(10, "none", x.back(), NOT);
        x.change(0, 0, 1);
        x.change(0, 1, 2);
        due(14, "both are done", x.sits(0, 2), 0);
        due(10, "one is left", x.back(), 1);
        due(14, "the last is undone", x.sits(0, 1), 0);
        due(10, "none is left", x.back(), 0);
        due(14, "as told", x.sits(0, 0), 0);
        due(10, "none", x.back(), NOT);
        due(39, "none", x.count(4), 0);
        for (int n = 1; n <= 8; n++) {
            x.change(0, 0, 1);
        }
        due(10, "7 of 8 are left", x.back(), 7);
    }

    private void seatsNotThere() {
        says("(nothing, if one of them is not there)");
        MarkedByNext x = school("d000;d000", "ab.");
        x.change(0, 0, 3);
        x.change(0, 3, 1);
        x.change(0, 15, 0);
        x.change(0, 14, 15);
        due(14, "SEAT 0 stays", x.sits(29, 0), 0);
        due(14, "SEAT 1 stays", x.sits(29, 1), 1);
        due(14, "SEAT 2 stays", x.sits(29, 2), NONE);
        due(12, "his SEAT", x.at(29, 0, 0), 0);
        due(39, "they are CHANGES", x.count(4), 4);
        x.change(1, 0, 2);
        due(14, "the last SEAT that is there", x.sits(1, 2), 0);
        Check.typeIn(x, 1, ".");
        due(14, "SEAT 3 has come: 0 and 3 are changed", x.sits(0, 0), NONE);
        due(14, "then 3 and 1", x.sits(0, 1), 0);
        due(14, "then 3 and 1", x.sits(0, 3), 1);
        x = school("d000;d000", "a...;....;....;...b");
        x.change(0, 0, 15);
        due(14, "SEAT 15 of 16 is there", x.sits(0, 15), 0);
        due(14, "and SEAT 0", x.sits(0, 0), 1);
        x.undo(1);
        due(14, "SEAT 15 of 15 is not", x.sits(0, 0), 0);
    }

    private void firstAndLastDay() {
        says("On a DAY first its CHANGES are done, as told");
        MarkedByNext x = school("c000;d000", "a.;b");
        x.change(0, 1, 2);
        due(14, "on DAY 0, ahead of its LESSON", x.sits(0, 1), 1);
        due(12, "so there is no GAIN on it", x.at(0, 0, 2), 0);
        due(7, "as told", x.seat(1, 0), NONE);
        x.back();
        x.change(29, 1, 2);
        due(14, "behind DAY 28", x.sits(28, 1), NONE);
        due(12, "GAIN of DAY 28", x.at(28, 0, 2), 1);
        due(14, "behind DAY 29", x.sits(29, 1), 1);
        due(12, "GAIN of DAY 29", x.at(29, 0, 2), 0);
        due(12, "SEAT behind DAY 28", x.at(28, 1, 0), 2);
        due(12, "SEAT behind DAY 29", x.at(29, 1, 0), 1);
    }

    private void changesOfOneDay() {
        says("who sits in the one SEAT sits in the other one, and the other way about");
        MarkedByNext x = school("c000;d000;b000", "abc.;....;....;....");
        for (int seat = 0; seat <= 7; seat++) {
            x.change(7, seat, seat + 1);
        }
        due(14, "one by one, as told: BOY 0 goes through all", x.sits(7, 8), 0);
        due(14, "the others go one back", x.sits(7, 0), 1);
        due(14, "the others go one back", x.sits(7, 1), 2);
        due(14, "nobody goes one back", x.sits(7, 2), NONE);
        due(14, "on DAY 7, not on DAY 6", x.sits(6, 0), 0);
        x.back();
        x.change(6, 0, 1);
        due(14, "an earlier DAY, whatever was told first", x.sits(6, 0), 1);
        due(14, "then BOY 1 goes", x.sits(7, 7), 1);
    }

    private void sheetsRead() {
        says("CHANGES from a SHEET: its items, three for each, as many as are whole, as long as each may be: how many."
                + " BAD; NULL.");
        MarkedByNext x = new MarkedByNext();
        due(11, "SHEET -1", x.read(-1), BAD);
        due(11, "SHEET 4", x.read(4), BAD);
        due(11, "the least", x.read(LEAST), BAD);
        due(11, "the most", x.read(MOST), BAD);
        for (int s = 0; s <= 3; s++) {
            due(11, "SHEET " + s + " is LOST", x.read(s), NULL);
            fillSheet(x, s, 2, s, s, s + 1);
            due(11, "SHEET " + s, x.read(s), 1);
            due(39, "so many", x.count(4), s + 1);
        }
        x.lose(3);
        due(11, "LOST again", x.read(3), NULL);
        due(39, "nothing came", x.count(4), 4);
    }

    private void wholeOnes() {
        says("three for each, as many as are whole");
        int[] items = {0, 0, 1, 1, 1, 2, 2, 2, 3};
        for (int n = 0; n <= 9; n++) {
            MarkedByNext x = new MarkedByNext();
            fillSheet(x, 0, 0, java.util.Arrays.copyOf(items, n));
            due(11, n + " items", x.read(0), n / 3);
            due(39, n + " items", x.count(4), n / 3);
        }
    }

    /** What is read from a SHEET of ints with three CHANGES, of which the second is this one. */
    private static int readWith(int day, int one, int other) {
        MarkedByNext x = new MarkedByNext();
        fillSheet(x, 0, 2, 3, 0, 1, day, one, other, 3, 0, 1);
        return x.read(0);
    }

    private void onesThatMayBe() {
        says("as long as each may be");
        due(11, "DAY -1", readWith(-1, 0, 1), 1);
        due(11, "DAY 0", readWith(0, 0, 1), 3);
        due(11, "DAY 29", readWith(29, 0, 1), 3);
        due(11, "DAY 30", readWith(30, 0, 1), 1);
        due(11, "SEAT -1", readWith(0, -1, 1), 1);
        due(11, "SEAT 15", readWith(0, 15, 1), 3);
        due(11, "SEAT 16", readWith(0, 16, 1), 1);
        due(11, "other SEAT -1", readWith(0, 0, -1), 1);
        due(11, "other SEAT 15", readWith(0, 0, 15), 3);
        due(11, "other SEAT 16", readWith(0, 0, 16), 1);
        due(11, "one and the same", readWith(0, 7, 7), 1);
        due(11, "the most", readWith(MOST, 0, 1), 1);
        MarkedByNext x = new MarkedByNext();
        fillSheet(x, 0, 2, 30, 0, 1, 3, 0, 1);
        due(11, "the first may not be", x.read(0), 0);
        fillSheet(x, 0, 2, 3, 0, 1, 3, 0, 1, 3, 0, 0);
        due(11, "the last may not be", x.read(0), 2);
        due(39, "so many", x.count(4), 2);
    }

    private void formsRead() {
        says("0 bytes, 1 shorts, 2 ints");
        for (int form = 0; form <= 2; form++) {
            MarkedByNext x = school("c000;c000", "a...;....;....;...b");
            fillSheet(x, 3, form, 29, 0, 15, 0, 15, 14);
            due(11, "FORM " + form, x.read(3), 2);
            due(14, "FORM " + form + ", first the one of DAY 0", x.sits(0, 14), 1);
            due(14, "FORM " + form + ", then that of DAY 29", x.sits(29, 15), 0);
        }
        MarkedByNext x = new MarkedByNext();
        fillSheet(x, 0, 0, 256 + 29, 512, 256 + 15);
        due(11, "by what a byte has of it", x.read(0), 1);
        fillSheet(x, 1, 1, 65536 + 29, 65536, 131072 + 15);
        due(11, "by what a short has of it", x.read(1), 1);
        fillSheet(x, 2, 2, 65536 + 29, 0, 15);
        due(11, "an int has it all", x.read(2), 0);
    }

    private void readUpToEight() {
        says("CHANGES, 8 at most (0 on)");
        for (int told = 0; told <= 8; told++) {
            for (int n : new int[] {3, 21, 24, 27, 60}) {
                MarkedByNext x = new MarkedByNext();
                x.sheet(0, 0, n);
                for (int i = 0; i < n; i += 3) {
                    x.put(0, 0, i + 1, 1);
                }
                for (int i = 0; i < told; i++) {
                    x.change(0, 0, 1);
                }
                int room = Math.min(8 - told, n / 3);
                due(11, n / 3 + " behind " + told, x.read(0), room);
                due(39, n / 3 + " behind " + told, x.count(4), told + room);
            }
        }
    }
}
