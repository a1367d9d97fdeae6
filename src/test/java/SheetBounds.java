/** Promises 33 to 40: SHEETS, counts, digest; and how long an object is used. */
final class SheetBounds extends Bounds {
    private static final int CALLS = 512;

    SheetBounds(Sayings sayings) {
        super(sayings);
    }

    @Override
    void all() {
        sheetsMade();
        itemsOfSheets();
        newRows();
        sizes();
        losing();
        putting();
        lowestBits();
        getting();
        copying();
        copiedAtTheEnds();
        copiedAsTheyWere();
        copiesRefused();
        writing();
        marksOfForms();
        findings();
        counting();
        digestOfNothing();
        digestThatWraps();
        lastCall();
    }

    private void sheetsMade() {
        says("A SHEET is a new row of a FORM with n items: n. BAD: SHEET, FORM, above 60; SIZE.");
        MarkedByNext x = new MarkedByNext();
        due(33, "SHEET -1", x.sheet(-1, 0, 1), BAD);
        due(33, "SHEET 0", x.sheet(0, 0, 1), 1);
        due(33, "SHEET 3", x.sheet(3, 0, 2), 2);
        due(33, "SHEET 4", x.sheet(4, 0, 1), BAD);
        due(33, "FORM -1", x.sheet(1, -1, 1), BAD);
        due(33, "FORM 0", x.sheet(1, 0, 1), 1);
        due(33, "FORM 2", x.sheet(1, 2, 1), 1);
        due(33, "FORM 3", x.sheet(1, 3, 1), BAD);
        due(33, "61 items", x.sheet(1, 0, 61), BAD);
        due(33, "the most items", x.sheet(1, 0, MOST), BAD);
        due(39, "none is a FINDING", x.count(8), 0);
        due(33, "-1 items", x.sheet(1, 0, -1), SIZE);
        due(39, "SIZE is one", x.count(8), 5);
        due(34, "SHEET 1 is as it was", x.lose(1), 1);
        due(34, "SHEET 3 is as it was", x.lose(3), 2);
        due(34, "SHEET 2 is LOST", x.lose(2), NULL);
    }

    private void itemsOfSheets() {
        says("SHEETS 0 .. 3 are LOST (at first) or a row of a FORM: 0 bytes, 1 shorts, 2 ints, of 0 to 60 items (0 at"
                + " first).");
        for (int s = 0; s <= 3; s++) {
            for (int form = 0; form <= 2; form++) {
                MarkedByNext x = new MarkedByNext();
                due(34, "LOST at first", x.lose(s), NULL);
                due(33, "0 items", x.sheet(s, form, 0), 0);
                due(35, "no item 0 of 0", x.put(s, form, 0, 7), INDEX);
                due(33, "1 item", x.sheet(s, form, 1), 1);
                due(36, "0 at first", x.get(s, form, 0), 0);
                due(35, "no item 1 of 1", x.put(s, form, 1, 7), INDEX);
                due(33, "59 items", x.sheet(s, form, 59), 59);
                due(35, "item 58 of 59", x.put(s, form, 58, 7), 1);
                due(35, "no item 59 of 59", x.put(s, form, 59, 7), INDEX);
                due(33, "60 items", x.sheet(s, form, 60), 60);
                due(35, "item 59 of 60", x.put(s, form, 59, 7), 1);
                due(35, "no item 60 of 60", x.put(s, form, 60, 7), INDEX);
                due(36, "item 59", x.get(s, form, 59), 7);
                due(33, "61 items", x.sheet(s, form, 61), BAD);
                due(34, "60 items are there", x.lose(s), 60);
            }
        }
    }

    private void newRows() {
        says("(0 at first)");
        MarkedByNext x = new MarkedByNext();
        x.sheet(0, 2, 60);
        for (int i = 0; i < 60; i++) {
            x.put(0, 2, i, 1 + i);
        }
        x.sheet(0, 2, 1);
        due(36, "a new row of one", x.get(0, 2, 0), 0);
        x.sheet(0, 1, 60);
        for (int i = 0; i < 60; i++) {
            due(36, "a new row of 60, item " + i, x.get(0, 1, i), 0);
        }
        x.put(0, 1, 59, 9);
        x.lose(0);
        x.sheet(0, 1, 60);
        due(36, "a new row behind a LOST one", x.get(0, 1, 59), 0);
    }

    private void sizes() {
        says("5 SIZE: below 0");
        MarkedByNext x = new MarkedByNext();
        due(33, "0", x.sheet(0, 0, 0), 0);
        due(33, "-1", x.sheet(0, 0, -1), SIZE);
        due(33, "the least", x.sheet(0, 0, LEAST), SIZE);
        due(33, "-1 of a LOST one", x.sheet(1, 0, -1), SIZE);
        due(34, "it is LOST still", x.lose(1), NULL);
        due(34, "the other one is there still", x.lose(0), 0);
        due(33, "SHEET ahead of SIZE", x.sheet(4, 0, -1), BAD);
        due(33, "FORM ahead of SIZE", x.sheet(0, 3, -1), BAD);
    }

    private void losing() {
        says("It is LOST: how many items it had. BAD; NULL.");
        MarkedByNext x = new MarkedByNext();
        due(34, "SHEET -1", x.lose(-1), BAD);
        due(34, "SHEET 4", x.lose(4), BAD);
        due(34, "the least", x.lose(LEAST), BAD);
        due(34, "the most", x.lose(MOST), BAD);
        due(39, "none is a FINDING", x.count(8), 0);
        due(34, "LOST at first", x.lose(0), NULL);
        due(39, "NULL is one", x.count(8), 1);
        x.sheet(0, 1, 60);
        x.sheet(3, 1, 0);
        due(34, "60", x.lose(0), 60);
        due(34, "LOST already", x.lose(0), NULL);
        due(34, "0", x.lose(3), 0);
        due(34, "LOST already", x.lose(3), NULL);
    }

    private void putting() {
        says("Item i, treated as of a FORM, becomes v (the lowest bits that it has): 1. BAD; NULL; CAST; INDEX.");
        MarkedByNext x = new MarkedByNext();
        x.sheet(0, 1, 3);
        due(35, "SHEET -1", x.put(-1, 1, 0, 1), BAD);
        due(35, "SHEET 4", x.put(4, 1, 0, 1), BAD);
        due(35, "FORM -1", x.put(0, -1, 0, 1), BAD);
        due(35, "FORM 3", x.put(0, 3, 0, 1), BAD);
        due(39, "none is a FINDING", x.count(8), 0);
        due(35, "LOST", x.put(3, 1, 0, 1), NULL);
        due(39, "NULL", x.count(8), 1);
        due(35, "as bytes", x.put(0, 0, 0, 1), CAST);
        due(39, "CAST", x.count(8), 3);
        due(35, "as ints", x.put(0, 2, 0, 1), CAST);
        due(35, "item -1", x.put(0, 1, -1, 1), INDEX);
        due(39, "INDEX", x.count(8), 2);
        due(35, "item 3 of three", x.put(0, 1, 3, 1), INDEX);
        due(35, "the least", x.put(0, 1, LEAST, 1), INDEX);
        due(35, "the most", x.put(0, 1, MOST, 1), INDEX);
        due(35, "item 0", x.put(0, 1, 0, 5), 1);
        due(35, "item 2", x.put(0, 1, 2, 6), 1);
        due(36, "item 0", x.get(0, 1, 0), 5);
        due(36, "item 1", x.get(0, 1, 1), 0);
        due(36, "item 2", x.get(0, 1, 2), 6);
    }

    private void lowestBits() {
        says("becomes v (the lowest bits that it has)");
        int[][] rows = {{0, 127, 127}, {0, 128, -128}, {0, 255, -1}, {0, 256, 0}, {0, -128, -128}, {0, -129, 127},
            {1, 32767, 32767}, {1, 32768, -32768}, {1, 65535, -1}, {1, 65536, 0}, {1, -32768, -32768},
            {1, -32769, 32767}, {2, MOST, MOST}, {2, LEAST, LEAST}, {2, -1, -1}, {0, MOST, -1}, {0, LEAST, 0},
            {1, MOST, -1}, {1, LEAST, 0}};
        MarkedByNext x = new MarkedByNext();
        for (int form = 0; form <= 2; form++) {
            x.sheet(form, form, 1);
        }
        for (int[] row : rows) {
            due(35, row[1] + " in FORM " + row[0], x.put(row[0], row[0], 0, row[1]), 1);
            due(36, row[1] + " in FORM " + row[0], x.get(row[0], row[0], 0), row[2]);
        }
        due(39, "the least int there is no FINDING", x.count(8), 0);
    }

    private void getting() {
        says("Item i of it. BAD: the least int; so are NULL, CAST, INDEX (count() 8 tells).");
        MarkedByNext x = new MarkedByNext();
        x.sheet(0, 1, 3);
        due(36, "SHEET -1", x.get(-1, 1, 0), LEAST);
        due(36, "SHEET 4", x.get(4, 1, 0), LEAST);
        due(36, "FORM -1", x.get(0, -1, 0), LEAST);
        due(36, "FORM 3", x.get(0, 3, 0), LEAST);
        due(39, "none is a FINDING", x.count(8), 0);
        due(36, "LOST", x.get(3, 1, 0), LEAST);
        due(39, "NULL", x.count(8), 1);
        due(36, "as bytes", x.get(0, 0, 0), LEAST);
        due(39, "CAST", x.count(8), 3);
        due(36, "item -1", x.get(0, 1, -1), LEAST);
        due(39, "INDEX", x.count(8), 2);
        due(36, "as ints", x.get(0, 2, 3), LEAST);
        due(39, "CAST ahead of INDEX", x.count(8), 3);
        due(36, "item 3 of three", x.get(0, 1, 3), LEAST);
        due(39, "INDEX", x.count(8), 2);
        due(36, "LOST, item -1", x.get(3, 1, -1), LEAST);
        due(39, "NULL ahead of INDEX", x.count(8), 1);
        due(36, "the most", x.get(0, 1, MOST), LEAST);
        due(39, "INDEX", x.count(8), 2);
        due(36, "item 2", x.get(0, 1, 2), 0);
        due(39, "the latest FINDING stays", x.count(8), 2);
    }

    private void copying() {
        says("n items of SHEET s, from i on, come to SHEET t (perhaps s, as they were), from j on: 1.");
        for (int form = 0; form <= 2; form++) {
            MarkedByNext x = new MarkedByNext();
            x.sheet(0, form, 60);
            x.sheet(3, form, 60);
            for (int i = 0; i < 60; i++) {
                x.put(0, form, i, i + 1);
            }
            due(37, "none", x.copy(0, 0, 3, 0, 0), 1);
            due(36, "nothing came", x.get(3, form, 0), 0);
            due(37, "the last to the first", x.copy(0, 59, 3, 0, 1), 1);
            due(36, "it came", x.get(3, form, 0), 60);
            due(36, "alone", x.get(3, form, 1), 0);
            due(37, "the first to the last", x.copy(0, 0, 3, 59, 1), 1);
            due(36, "it came", x.get(3, form, 59), 1);
            due(37, "all 60", x.copy(0, 0, 3, 0, 60), 1);
            for (int i = 0; i < 60; i++) {
                due(36, "item " + i, x.get(3, form, i), i + 1);
            }
            due(37, "61", x.copy(0, 0, 3, 0, 61), INDEX);
        }
    }

    private void copiedAtTheEnds() {
        says("INDEX: below 0, not so many");
        MarkedByNext x = new MarkedByNext();
        fillSheet(x, 0, 2, 1, 2, 3, 4, 5);
        x.sheet(1, 2, 3);
        due(37, "i -1", x.copy(0, -1, 1, 0, 1), INDEX);
        due(39, "the FINDING", x.count(8), 2);
        due(37, "j -1", x.copy(0, 0, 1, -1, 1), INDEX);
        due(37, "n -1", x.copy(0, 0, 1, 0, -1), INDEX);
        due(37, "i 4, two", x.copy(0, 4, 1, 0, 2), INDEX);
        due(37, "j 2, two", x.copy(0, 0, 1, 2, 2), INDEX);
        due(37, "i 5, none", x.copy(0, 5, 1, 0, 0), 1);
        due(37, "i 6, none", x.copy(0, 6, 1, 0, 0), INDEX);
        due(37, "j 3, none", x.copy(0, 0, 1, 3, 0), 1);
        due(37, "j 4, none", x.copy(0, 0, 1, 4, 0), INDEX);
        due(37, "i -1, none", x.copy(0, -1, 1, 0, 0), INDEX);
        due(37, "j -1, none", x.copy(0, 0, 1, -1, 0), INDEX);
        due(37, "i and n that wrap", x.copy(0, MOST, 1, 0, MOST), INDEX);
        due(37, "j and n that wrap", x.copy(0, 0, 1, MOST, 2), INDEX);
        due(37, "i 1, the most", x.copy(0, 1, 1, 0, MOST), INDEX);
        due(37, "the least n", x.copy(0, 0, 1, 0, LEAST), INDEX);
        due(37, "the least i", x.copy(0, LEAST, 1, 0, 1), INDEX);
        due(37, "the least j", x.copy(0, 0, 1, LEAST, 1), INDEX);
        for (int i = 0; i < 3; i++) {
            due(36, "nothing came", x.get(1, 2, i), 0);
        }
        due(37, "i 2, three: all that are left", x.copy(0, 2, 1, 0, 3), 1);
        due(36, "the last came", x.get(1, 2, 2), 5);
        due(37, "i 3, three", x.copy(0, 3, 1, 0, 3), INDEX);
        x.sheet(2, 2, 0);
        due(37, "none of no items", x.copy(2, 0, 2, 0, 0), 1);
        due(37, "one of no items", x.copy(2, 0, 0, 0, 1), INDEX);
        due(37, "one to no items", x.copy(0, 0, 2, 0, 1), INDEX);
    }

    private void copiedAsTheyWere() {
        says("come to SHEET t (perhaps s, as they were)");
        int[][] rows = {{0, 1, 4, 1, 1, 2, 3, 4}, {1, 0, 4, 2, 3, 4, 5, 5}, {0, 0, 5, 1, 2, 3, 4, 5},
            {0, 2, 3, 1, 2, 1, 2, 3}, {2, 0, 3, 3, 4, 5, 4, 5}, {4, 0, 1, 5, 2, 3, 4, 5}, {0, 4, 1, 1, 2, 3, 4, 1}};
        for (int[] row : rows) {
            MarkedByNext x = new MarkedByNext();
            fillSheet(x, 2, 1, 1, 2, 3, 4, 5);
            String what = row[2] + " from " + row[0] + " to " + row[1];
            due(37, what, x.copy(2, row[0], 2, row[1], row[2]), 1);
            for (int i = 0; i < 5; i++) {
                due(36, what + ", item " + i, x.get(2, 1, i), row[3 + i]);
            }
        }
    }

    private void copiesRefused() {
        says("BAD: the SHEETS; NULL: s, t; STORE; INDEX");
        MarkedByNext x = new MarkedByNext();
        x.sheet(0, 0, 3);
        x.sheet(1, 1, 3);
        x.sheet(2, 2, 3);
        due(37, "s -1", x.copy(-1, 0, 0, 0, 1), BAD);
        due(37, "s 4", x.copy(4, 0, 0, 0, 1), BAD);
        due(37, "t -1", x.copy(0, 0, -1, 0, 1), BAD);
        due(37, "t 4", x.copy(0, 0, 4, 0, 1), BAD);
        due(37, "s LOST, t 4", x.copy(3, 0, 4, 0, 1), BAD);
        due(37, "s 4, t LOST", x.copy(4, 0, 3, 0, 1), BAD);
        due(39, "none is a FINDING", x.count(8), 0);
        due(37, "s LOST", x.copy(3, 0, 0, 0, 1), NULL);
        due(39, "NULL", x.count(8), 1);
        for (int s = 0; s <= 2; s++) {
            for (int t = 0; t <= 2; t++) {
                due(37, "FORMS " + s + " and " + t, x.copy(s, 0, t, 0, 3), s == t ? 1 : STORE);
                due(37, "FORMS " + s + " and " + t + ", none", x.copy(s, 0, t, 0, 0), s == t ? 1 : STORE);
                due(37, "FORMS " + s + " and " + t + ", four", x.copy(s, 0, t, 0, 4), s == t ? INDEX : STORE);
                due(39, "the FINDING", x.count(8), s == t ? 2 : 4);
            }
        }
        due(37, "t LOST", x.copy(0, 0, 3, 0, 1), NULL);
        due(37, "both LOST", x.copy(3, 0, 3, 0, 0), NULL);
        due(37, "NULL ahead of INDEX", x.copy(0, -1, 3, 0, 1), NULL);
        due(39, "NULL", x.count(8), 1);
    }

    private void writing() {
        says("MARKS of a BOY behind DAYS 0 on come to a SHEET from item 0 on, as many as there are items, 30 at most:"
                + " how many. BAD; NULL.");
        for (int n : new int[] {0, 1, 2, 29, 30, 31, 59, 60}) {
            MarkedByNext x = school("d000;c900", "ab");
            x.sheet(3, 2, n);
            for (int i = 0; i < n; i++) {
                x.put(3, 2, i, 77);
            }
            due(38, n + " items", x.write(1, 3), Math.min(n, 30));
            for (int i = 0; i < n; i++) {
                due(36, n + " items, item " + i, x.get(3, 2, i), i < 30 ? Math.min(i / 3 + 1, 9) : 77);
            }
        }
        MarkedByNext x = school("d000;c900", "ab");
        x.sheet(0, 0, 1);
        due(38, "BOY -1", x.write(-1, 0), BAD);
        due(38, "BOY 2 of two", x.write(2, 0), BAD);
        due(38, "BOY 8", x.write(8, 0), BAD);
        due(38, "SHEET -1", x.write(0, -1), BAD);
        due(38, "SHEET 4", x.write(0, 4), BAD);
        due(38, "BOY 2 ahead of NULL", x.write(2, 1), BAD);
        due(39, "none is a FINDING", x.count(8), 0);
        due(38, "LOST", x.write(0, 1), NULL);
        due(39, "NULL", x.count(8), 1);
        due(38, "BOY 0, SHEET 0", x.write(0, 0), 1);
        due(36, "MARKS behind DAY 0", x.get(0, 0, 0), 0);
    }

    /**
     * A bully that KNOWS 9 of all between two others that KNOW nothing: 8 MARKS a DAY up to DAY 14, when these have 10
     * of all; then he has the GAINS, up to DAY 17, then these again: 128 behind DAY 18.
     */
    private void marksOfForms() {
        says("0 bytes, 1 shorts, 2 ints");
        MarkedByNext x = school("b999;b000;b000", "bac");
        for (int form = 0; form <= 2; form++) {
            x.sheet(form, form, 30);
            due(38, "FORM " + form, x.write(0, form), 30);
        }
        int[][] rows = {{0, 8}, {14, 120}, {17, 120}, {18, 128}, {19, 136}, {20, 144}, {23, 144}, {26, 168}, {29, 168}};
        for (int[] row : rows) {
            int day = row[0];
            due(12, "MARKS behind DAY " + day, x.at(day, 0, 1), row[1]);
            due(36, "as a byte, behind DAY " + day, x.get(0, 0, day), row[1] > 127 ? row[1] - 256 : row[1]);
            due(36, "as a short, behind DAY " + day, x.get(1, 1, day), row[1]);
            due(36, "as an int, behind DAY " + day, x.get(2, 2, day), row[1]);
        }
    }

    private void findings() {
        says("FINDINGS (answers -10 less the number; they change nothing but count() 8)");
        MarkedByNext x = school("c000", "a");
        x.sheet(0, 0, 1);
        x.sheet(1, 1, 1);
        due(39, "0 before any", x.count(8), 0);
        says("1 NULL: the SHEET is LOST; 2 INDEX: there is no such item; 3 CAST: it has another FORM; 4 STORE: unlike FORMS;"
                + " 5 SIZE: below 0.");
        due(34, "NULL", x.lose(2), -11);
        due(39, "1", x.count(8), 1);
        due(35, "INDEX", x.put(0, 0, 1, 1), -12);
        due(39, "2", x.count(8), 2);
        due(35, "CAST", x.put(0, 1, 0, 1), -13);
        due(39, "3", x.count(8), 3);
        due(37, "STORE", x.copy(0, 0, 1, 0, 1), -14);
        due(39, "4", x.count(8), 4);
        due(33, "SIZE", x.sheet(0, 0, -1), -15);
        due(39, "5", x.count(8), 5);
        due(11, "NULL by read", x.read(3), -11);
        due(39, "1 again", x.count(8), 1);
        x.sheet(0, 0, -1);
        due(38, "NULL by write", x.write(0, 3), -11);
        due(39, "1 again", x.count(8), 1);
        x.sheet(0, 0, 1);
        x.put(0, 0, 0, 1);
        x.type(2, 0);
        x.back();
        due(39, "what is no FINDING leaves it", x.count(8), 1);
    }

    private void counting() {
        says("0 BOYS, 1 SEATS, 2, 3 bytes of texts, 4 CHANGES, 5 MARKS of all behind DAY 29, 6 GHOSTS of all, 7 SEEN, 8 the"
                + " number of the latest FINDING (0 before any). BAD.");
        MarkedByNext x = school(EIGHT_BOYS, SIXTEEN_SEATS);
        for (int n = 0; n < 8; n++) {
            x.change(0, 0, 1);
            x.seen(0, 0, 0, 0);
        }
        int marks = 0;
        for (int boy = 0; boy < 8; boy++) {
            marks += x.at(29, boy, 1);
        }
        int ghosts = 0;
        for (int seat = 0; seat < 16; seat++) {
            ghosts += x.ghost(seat);
        }
        int[] most = {8, 16, 39, 19, 8, marks, ghosts, 8, 0};
        due(39, "-1", x.count(-1), BAD);
        for (int what = 0; what <= 8; what++) {
            due(39, "count(" + what + ") at its most", x.count(what), most[what]);
            due(39, "count(" + what + ") of nothing", new MarkedByNext().count(what), 0);
        }
        due(39, "9", x.count(9), BAD);
        due(39, "the least", x.count(LEAST), BAD);
        due(39, "the most", x.count(MOST), BAD);
        due(39, "there are MARKS and GHOSTS", marks > 0 && ghosts > 0 ? 1 : 0, 1);
    }

    private void digestOfNothing() {
        says("h is 17; h becomes 31 h and each of: count() 0 to 7; of texts fault(); of SEATS seat() 0, 1");
        long[] all = {0, 0, 0, 0, 0, 0, 0, 0, -1, -1, -1, -1, -1, -1, 0, 0, -1, -1, -1, -1, -1, 0, 0, 1, 2, 0, -1, 0, 0, 0};
        long h = 17;
        for (long v : all) {
            h = 31 * h + v;
        }
        MarkedByNext x = new MarkedByNext();
        due(40, "a new object", x.digest(), h);
        x.sheet(0, 2, 60);
        x.put(0, 2, 0, 5);
        x.lose(1);
        due(40, "SHEETS and FINDINGS are not in it", x.digest(), h);
        x.type(0, 'x');
        due(40, "a byte is", x.digest() == h ? 1 : 0, 0);
        x.wipe(0);
        due(40, "a new object again", x.digest(), h);
    }

    private void digestThatWraps() {
        says("as longs that wrap");
        School school = new School(EIGHT_BOYS, SIXTEEN_SEATS).and(4, 0, 5).and(4, 3, 9).and(9, 1, 6).and(12, 2, 11)
                .and(15, 7, 10).and(20, 0, 12).and(0, 14, 15).and(29, 15, 0);
        MarkedByNext x = school.made();
        for (int n = 0; n < 8; n++) {
            x.seen(3 * n, n, 0, x.knows(3 * n, n, 0));
        }
        due(40, "all at their most", x.digest(), Digest.of(x));
        due(40, "again", x.digest(), Digest.of(x));
        x.type(1, '.');
        due(40, "FULL changes nothing", x.digest(), Digest.of(x));
        x.undo(1);
        x.undo(0);
        due(40, "no BOYS, 15 SEATS", x.digest(), Digest.of(x));
        x.undo(1);
        due(40, "14 SEATS", x.digest(), Digest.of(x));
        School spare = new School("d000;c900;d000;c900", "ab..;cd..").and(0, 1, 2).and(0, 5, 6).and(29, 1, 3)
                .and(29, 5, 7);
        due(40, "with two that had better not be", spare.made().digest(), Digest.of(spare.made()));
        School rush = new School("c900;c090;d900;d090", "ac;bd");
        due(40, "with two that would", rush.made().digest(), Digest.of(rush.made()));
        School days = new School("d000;d999;c000", "a.b;c.").and(6, 0, 4).and(7, 1, 2).and(8, 3, 2).and(9, 0, 1);
        due(40, "with CHANGES on DAYS 6 to 9", days.made().digest(), Digest.of(days.made()));
        due(40, "a DAY that is told from the next", days.made().sits(6, 0) != days.made().sits(5, 0) ? 1 : 0, 1);
        due(40, "and from the last", days.made().sits(6, 2) != days.made().sits(7, 2) ? 1 : 0, 1);
    }

    /** Also 512 of the dearest calls end, and the last answers as the first. */
    private void lastCall() {
        says("An object is used for at most 512 calls after it has been made");
        School school = new School(EIGHT_BOYS, SIXTEEN_SEATS).and(4, 0, 5).and(9, 1, 6);
        long first = school.made().digest();
        for (int call : new int[] {CALLS - 1, CALLS}) {
            MarkedByNext x = school.made();
            for (int n = 39 + 19 + 2 + 1; n < call; n++) {
                x.count(n % 9);
            }
            due(40, "call " + call, x.digest(), first);
        }
        MarkedByNext x = new MarkedByNext();
        for (int n = 1; n < CALLS; n++) {
            due(2, "call " + n, n % 2 == 1 ? x.type(0, 'c') : x.undo(0), n % 2);
        }
        due(4, "call 512", x.undo(0), 0);
        x = school.made();
        long h = 0;
        for (int n = 39 + 19 + 2 + 1; n <= CALLS; n++) {
            h = x.digest();
        }
        due(40, "512 calls, most of them digest", h, first);
    }
}
