/** For each promise of the document: ordinary inputs, the edges that it names, wrong inputs; worked out by hand. */
public final class PromiseTests {
    private static final int NONE = MarkedByNext.NONE, BAD = MarkedByNext.BAD;
    private static final int NOT = MarkedByNext.NOT, FULL = MarkedByNext.FULL;
    private static final int NULL = -11, INDEX = -12, CAST = -13, STORE = -14, SIZE = -15;
    private static final int LEAST = Integer.MIN_VALUE, MOST = Integer.MAX_VALUE;
    private static final long LONG_BAD = Long.MIN_VALUE + 2;
    private static final Check CHECK = new Check();

    public static void main(String[] args) {
        newObject();
        typing();
        wipingAndUndoing();
        faultsOfBoys();
        faultsOfBenches();
        boysAndSeats();
        mastersTold();
        changesTold();
        changesRead();
        changesReadUpToEight();
        days();
        kindsOfGain();
        changesOnDays();
        ghosts();
        mastersFound();
        bestFormIdle();
        sitting();
        trading();
        rushing();
        tables();
        spares();
        seeing();
        nevers();
        sorts();
        firsts();
        asks();
        lucks();
        manyYears();
        sheetsMadeAndLost();
        itemsPutAndGot();
        copies();
        marksWritten();
        counts();
        digests();
        answersKeptNoLongerThanTheyHold();
        CHECK.end();
    }

    private static void due(String call, long got, long want) {
        CHECK.due(call, got, want);
    }

    /** A dull one beside a clever one that KNOWS 9 of SUBJECT 0: 9 GAINS of him, all for the clever one. */
    private static MarkedByNext pair() {
        return Check.school("d000;c900", "ab");
    }

    /** The same two, with a free SEAT to go to. */
    private static MarkedByNext pairWithRoom() {
        return Check.school("d000;c900", "ab.");
    }

    private static void newObject() {
        MarkedByNext x = new MarkedByNext();
        for (int what = 0; what <= 8; what++) {
            due("1: count(" + what + ")", x.count(what), 0);
        }
        due("1: fault(0)", x.fault(0), NONE);
        due("1: fault(1)", x.fault(1), NONE);
        for (int s = 0; s < 4; s++) {
            due("1: lose(" + s + ")", x.lose(s), NULL);
        }
        due("1: masters(12)", x.masters(12), 12);
        due("1: NONE", NONE, -1);
        due("1: BAD", BAD, -2);
        due("1: NOT", NOT, -3);
        due("1: FULL", FULL, -4);
    }

    private static void typing() {
        MarkedByNext x = new MarkedByNext();
        due("2: first byte", x.type(0, 0), 1);
        due("2: greatest byte", x.type(0, 255), 2);
        due("2: byte 256", x.type(0, 256), BAD);
        due("2: byte -1", x.type(0, -1), BAD);
        due("2: text -1", x.type(-1, 65), BAD);
        due("2: text 2", x.type(2, 65), BAD);
        due("2: refusals change nothing", x.count(2), 2);
        for (int n = 3; n <= 39; n++) {
            due("2: byte " + n, x.type(0, 'c'), n);
        }
        due("2: byte 40 of text 0", x.type(0, 'c'), FULL);
        due("2: BAD ahead of FULL", x.type(0, 256), BAD);
        due("2: full text stays", x.count(2), 39);
        for (int n = 1; n <= 19; n++) {
            due("2: byte " + n + " of text 1", x.type(1, '.'), n);
        }
        due("2: byte 20 of text 1", x.type(1, '.'), FULL);
    }

    private static void wipingAndUndoing() {
        MarkedByNext x = pair();
        due("3: wipe(0)", x.wipe(0), 9);
        due("3: wipe(0) again", x.wipe(0), 0);
        due("3: the other text stays", x.count(3), 2);
        due("3: no BOYS", x.count(0), 0);
        due("3: wipe(1)", x.wipe(1), 2);
        due("3: no SEATS", x.count(1), 0);
        due("3: wipe(2)", x.wipe(2), BAD);
        due("3: wipe(-1)", x.wipe(-1), BAD);
        x = pair();
        due("4: undo(1)", x.undo(1), 1);
        due("4: one SEAT", x.count(1), 1);
        due("4: undo(1)", x.undo(1), 0);
        due("4: undo(1) of an empty one", x.undo(1), NOT);
        due("4: undo(0)", x.undo(0), 8);
        due("4: no BOYS while a text is not ended", x.count(0), 0);
        due("4: undo(2)", x.undo(2), BAD);
        due("4: undo(-1)", x.undo(-1), BAD);
        for (int i = 0; i < 4; i++) {
            x.undo(0);
        }
        due("4: one BOY", x.count(0), 1);
    }

    private static void fault(int text, String bytes, int want) {
        MarkedByNext x = new MarkedByNext();
        Check.typeIn(x, text, bytes);
        due("5: fault(" + text + ") of " + bytes, x.fault(text), want);
        if (want != NONE) {
            due("5: as if empty: " + bytes, x.count(text), 0);
        }
    }

    private static void faultsOfBoys() {
        fault(0, "", NONE);
        fault(0, "c000", NONE);
        fault(0, "d999;b123", NONE);
        fault(0, "c000;c000;c000;c000;c000;c000;c000;c000", NONE);
        fault(0, "c", 1);
        fault(0, "c1", 2);
        fault(0, "c12", 3);
        fault(0, "c123;", 5);
        fault(0, "c123;d", 6);
        fault(0, "a123", 0);
        fault(0, "C123", 0);
        fault(0, "e123", 0);
        fault(0, ";", 0);
        fault(0, "c:23", 1);
        fault(0, "c1/3", 2);
        fault(0, "c1234", 4);
        fault(0, "c123;;", 5);
        fault(0, "c123,d123", 4);
        MarkedByNext x = new MarkedByNext();
        due("5: fault(2)", x.fault(2), BAD);
        due("5: fault(-1)", x.fault(-1), BAD);
    }

    private static void faultsOfBenches() {
        fault(1, "", NONE);
        fault(1, ".", NONE);
        fault(1, "abcd;efgh;....;....", NONE);
        fault(1, "h.a", NONE);
        fault(1, "i", 0);
        fault(1, "`", 0);
        fault(1, "A", 0);
        fault(1, ";", 0);
        fault(1, "a;", 2);
        fault(1, "a;;", 2);
        fault(1, "aa", 1);
        fault(1, "a;b;a", 4);
        fault(1, ".....", 4);
        fault(1, "....a", 4);
        fault(1, "..../", 4);
        fault(1, ".;.;.;.;", 8);
        fault(1, ".;.;.;.;.", 8);
        fault(1, ".;.;.;.;x", 8);
        fault(1, ".;.;.;.x", 7);
    }

    private static void boysAndSeats() {
        MarkedByNext x = Check.school("c123;d456;b789", "a.;h.c.");
        int[] want = {0, 1, 2, 3, 1, 4, 5, 6, 2, 7, 8, 9};
        for (int i = 0; i < 12; i++) {
            due("6: boy(" + i / 4 + ", " + i % 4 + ")", x.boy(i / 4, i % 4), want[i]);
        }
        due("6: boy(3, 0)", x.boy(3, 0), BAD);
        due("6: boy(-1, 0)", x.boy(-1, 0), BAD);
        due("6: boy(0, 4)", x.boy(0, 4), BAD);
        due("6: boy(0, -1)", x.boy(0, -1), BAD);
        int[] who = {0, NONE, NONE, NONE, 2, NONE};
        int[] bench = {0, 0, 1, 1, 1, 1};
        for (int seat = 0; seat < 6; seat++) {
            due("7: seat(" + seat + ", 0)", x.seat(seat, 0), who[seat]);
            due("7: seat(" + seat + ", 1)", x.seat(seat, 1), bench[seat]);
        }
        due("7: seat(6, 0)", x.seat(6, 0), BAD);
        due("7: seat(-1, 0)", x.seat(-1, 0), BAD);
        due("7: seat(0, 2)", x.seat(0, 2), BAD);
        due("7: seat(0, -1)", x.seat(0, -1), BAD);
        Check.typeIn(x, 0, ";c000;c000;c000;c000;c000");
        due("7: a BOY comes to his SEAT", x.seat(2, 0), 7);
        x.change(0, 0, 1);
        due("7: as told, whatever CHANGES", x.seat(0, 0), 0);
        x = Check.school("c000", "ab");
        due("7: BOY 1 of one is not there", x.seat(1, 0), NONE);
        due("7: BOY 0 has nobody BESIDE", x.at(0, 0, 2), 1);
    }

    private static void mastersTold() {
        MarkedByNext x = new MarkedByNext();
        due("8: masters(1)", x.masters(1), 12);
        due("8: masters(30)", x.masters(30), 1);
        due("8: masters(0)", x.masters(0), BAD);
        due("8: masters(31)", x.masters(31), BAD);
        due("8: refusals change nothing", x.masters(5), 30);
    }

    private static void changesTold() {
        MarkedByNext x = new MarkedByNext();
        due("9: no SEATS are needed", x.change(0, 0, 15), 1);
        due("9: last DAY", x.change(29, 15, 0), 2);
        due("9: DAY 30", x.change(30, 0, 1), BAD);
        due("9: DAY -1", x.change(-1, 0, 1), BAD);
        due("9: SEAT 16", x.change(0, 16, 1), BAD);
        due("9: SEAT -1", x.change(0, -1, 1), BAD);
        due("9: other SEAT 16", x.change(0, 1, 16), BAD);
        due("9: other SEAT -1", x.change(0, 1, -1), BAD);
        due("9: one and the same", x.change(0, 3, 3), BAD);
        due("9: refusals change nothing", x.count(4), 2);
        for (int n = 3; n <= 8; n++) {
            due("9: CHANGE " + n, x.change(5, 1, 2), n);
        }
        due("9: a ninth", x.change(5, 1, 2), FULL);
        due("9: BAD ahead of FULL", x.change(5, 2, 2), BAD);
        for (int n = 7; n >= 0; n--) {
            due("10: back()", x.back(), n);
        }
        due("10: back() of none", x.back(), NOT);
        x = pairWithRoom();
        x.change(0, 1, 2);
        due("10: apart", x.count(5), 0);
        x.back();
        due("10: together again", x.count(5), 9);
    }

    private static void fillSheet(MarkedByNext x, int s, int form, int... items) {
        x.sheet(s, form, items.length);
        for (int i = 0; i < items.length; i++) {
            x.put(s, form, i, items[i]);
        }
    }

    private static void changesRead() {
        MarkedByNext x = pairWithRoom();
        due("11: read(4)", x.read(4), BAD);
        due("11: read(-1)", x.read(-1), BAD);
        due("11: read(0)", x.read(0), NULL);
        due("11: the FINDING", x.count(8), 1);
        fillSheet(x, 0, 2, 0, 1, 2, 10, 2, 1, 20, 1);
        due("11: as many as are whole", x.read(0), 2);
        due("11: they are done", x.sits(0, 2), 1);
        due("11: they are undone", x.sits(10, 2), NONE);
        fillSheet(x, 1, 0, 13, 0, 1, 30, 0, 1, 4, 0, 1);
        due("11: as long as each may be", x.read(1), 1);
        due("11: behind those told", x.count(4), 3);
        due("11: the new one is done", x.sits(13, 0), 1);
        due("11: the old ones still are", x.sits(0, 2), 1);
        due("11: the last is the new one", x.back(), 2);
        due("11: it is undone", x.sits(13, 0), 0);
        fillSheet(x, 2, 1, 5, 7, 7);
        due("11: none that may be", x.read(2), 0);
        due("11: none is taken away by it", x.count(4), 2);
        x.sheet(0, 0, 0);
        due("11: an empty SHEET", x.read(0), 0);
        due("11: none is taken away by an empty one", x.back(), 1);
        x.lose(0);
        due("11: a LOST one", x.read(0), NULL);
        due("11: changes nothing", x.count(4), 1);
    }

    private static void changesReadUpToEight() {
        MarkedByNext x = pairWithRoom();
        x.sheet(3, 1, 60);
        for (int i = 0; i < 60; i += 3) {
            x.put(3, 1, i + 1, 1);
        }
        due("11: 8 at most", x.read(3), 8);
        due("11: no room", x.read(3), 0);
        due("11: no room, count(4)", x.count(4), 8);
        x.back();
        x.back();
        due("11: those told before count", x.read(3), 2);
        due("11: full again", x.change(0, 0, 1), FULL);
    }

    private static void days() {
        MarkedByNext x = pair();
        due("12: SEAT", x.at(0, 1, 0), 1);
        due("12: MARKS", x.at(0, 1, 1), 1);
        due("12: GAIN", x.at(0, 0, 2), 1);
        due("12: GAIN of another SUBJECT", x.at(1, 0, 2), 0);
        due("12: MARKS behind DAY 24", x.at(24, 1, 1), 9);
        due("12: MARKS behind DAY 29", x.at(29, 1, 1), 9);
        due("12: GAIN behind DAY 27", x.at(27, 0, 2), 0);
        due("13: behind DAY 0", x.knows(0, 0, 0), 1);
        due("13: behind DAY 2", x.knows(2, 0, 0), 1);
        due("13: behind DAY 3", x.knows(3, 0, 0), 2);
        due("13: behind DAY 29", x.knows(29, 0, 0), 9);
        due("13: another SUBJECT", x.knows(29, 0, 2), 0);
        due("14: sits(0, 0)", x.sits(0, 0), 0);
        due("14: sits(29, 1)", x.sits(29, 1), 1);
        due("12: DAY 30", x.at(30, 0, 0), BAD);
        due("12: DAY -1", x.at(-1, 0, 0), BAD);
        due("12: BOY 2", x.at(0, 2, 0), BAD);
        due("12: BOY -1", x.at(0, -1, 0), BAD);
        due("12: what 3", x.at(0, 0, 3), BAD);
        due("12: what -1", x.at(0, 0, -1), BAD);
        due("13: DAY 30", x.knows(30, 0, 0), BAD);
        due("13: DAY -1", x.knows(-1, 0, 0), BAD);
        due("13: BOY 2", x.knows(0, 2, 0), BAD);
        due("13: BOY -1", x.knows(0, -1, 0), BAD);
        due("13: SUBJECT 3", x.knows(0, 0, 3), BAD);
        due("13: SUBJECT -1", x.knows(0, 0, -1), BAD);
        due("14: DAY 30", x.sits(30, 0), BAD);
        due("14: DAY -1", x.sits(-1, 0), BAD);
        due("14: SEAT 2", x.sits(0, 2), BAD);
        due("14: SEAT -1", x.sits(0, -1), BAD);
        x = Check.school("c000;c500", "a");
        due("12: sits nowhere", x.at(5, 1, 0), NONE);
        due("12: no MARKS", x.at(29, 1, 1), 0);
        due("12: no GAIN", x.at(5, 1, 2), 0);
        due("13: KNOWS as at first", x.knows(29, 1, 0), 5);
        due("12: he that sits GAINS", x.at(29, 0, 2), 1);
        x.wipe(1);
        due("12: no GAIN when he sits no longer", x.at(29, 0, 2), 0);
        due("19: both are IDLE then", x.idle(), 3);
        x = Check.school("d012;c345", "ab");
        due("13: SUBJECT 0", x.knows(0, 1, 0), 3);
        due("13: SUBJECT 1", x.knows(0, 1, 1), 4);
        due("13: SUBJECT 2", x.knows(0, 1, 2), 5);
        due("13: SUBJECT 2 on DAY 2", x.knows(2, 0, 2), 3);
    }

    private static void kindsOfGain() {
        MarkedByNext x = Check.school("d000;c900;b500", "cab");
        due("12: dull, two BESIDE who KNOW more", x.at(0, 0, 2), 2);
        due("12: clever, nobody KNOWS more", x.at(0, 1, 2), 0);
        due("12: a bully, nobody KNOWS more", x.at(0, 2, 2), 0);
        due("12: a bully's MARKS by twice", x.at(0, 2, 1), 4);
        due("12: a clever one's by once", x.at(0, 1, 1), 2);
        x = Check.school("c000;d900;d900", "bac");
        due("12: clever, 1 by two who KNOW more", x.at(0, 0, 2), 1);
        due("12: clever, somebody BESIDE, none KNOWS more", x.at(1, 0, 2), 0);
        x = Check.school("b000;d900;d900", "bac");
        due("12: a bully, 2 by two who KNOW more", x.at(0, 0, 2), 2);
        x = Check.school("c000;d000;b000", "a.b;.c");
        due("12: clever and alone", x.at(29, 0, 2), 1);
        due("12: dull and alone", x.at(29, 1, 2), 0);
        due("12: a bully and alone", x.at(29, 2, 2), 0);
        x = Check.school("d000;d900", "a;b");
        due("12: the next BENCH is not BESIDE", x.at(0, 0, 2), 0);
        x = Check.school("b000;d100", "ab");
        due("13: all at once, by what all KNOW ahead", x.knows(0, 0, 0), 2);
        due("13: not by what one KNOWS behind", x.knows(0, 1, 0), 1);
        due("13: the next LESSON", x.knows(3, 1, 0), 2);
        due("12: bully 2 by 1", x.at(29, 0, 1), 2);
        due("12: dull 2 by 2", x.at(29, 1, 1), 2);
    }

    private static void changesOnDays() {
        MarkedByNext x = Check.school("d000;c900;b500", "ab.;c");
        x.change(4, 0, 1);
        x.change(4, 1, 3);
        x.change(4, 2, 4);
        due("14: ahead of it", x.sits(3, 0), 0);
        due("14: as told, one by one", x.sits(4, 0), 1);
        due("14: as told, one by one", x.sits(4, 1), 2);
        due("14: as told, one by one", x.sits(4, 3), 0);
        due("14: SEAT 4 is not there: nothing", x.sits(4, 2), NONE);
        due("12: moved", x.at(29, 0, 0), 3);
        x.change(6, 3, 2);
        due("14: to an empty SEAT", x.sits(6, 2), 0);
        due("14: an emptied one", x.sits(6, 3), NONE);
        due("12: CHANGES ahead of the LESSON", x.at(6, 0, 2), 1);
        x.change(2, 0, 1);
        due("14: by DAYS, not as told", x.sits(4, 0), 0);
        x = pair();
        x.change(0, 2, 0);
        x.change(0, 0, 2);
        x.change(0, 15, 1);
        x.change(0, 1, 15);
        due("14: the one is not there: nothing", x.sits(0, 0), 0);
        due("14: the other is not there: nothing", x.sits(0, 1), 1);
        due("12: SEAT 0", x.at(0, 0, 0), 0);
    }

    private static void ghosts() {
        MarkedByNext x = Check.school("c000;c000", "a.b;.");
        due("15: GAINS of both BESIDE", x.ghost(1), 60);
        due("15: of a SEAT where somebody sits", x.ghost(0), 0);
        due("15: nobody BESIDE", x.ghost(3), 0);
        due("15: ghost(4)", x.ghost(4), BAD);
        due("15: ghost(-1)", x.ghost(-1), BAD);
        due("39: GHOSTS of all", x.count(6), 60);
        due("39: no MARKS", x.count(5), 0);
        x.change(10, 2, 3);
        due("15: 10 DAYS of two, 20 of one", x.ghost(1), 40);
        due("15: a SEAT left", x.ghost(2), 0);
        due("15: it has nobody BESIDE", x.ghost(3), 0);
        x = Check.school("c000", "h.;.a");
        due("15: a SEAT of a BOY that is not there", x.ghost(0), 0);
        due("15: BESIDE a clever one", x.ghost(2), 30);
    }

    private static void mastersFound() {
        MarkedByNext x = pair();
        for (int what = 0; what <= 2; what++) {
            due("16: nobody KNOWS 12", x.master(what), NONE);
        }
        x.masters(9);
        due("16: DAY", x.master(0), 0);
        due("16: BOY", x.master(1), 1);
        due("16: SUBJECT", x.master(2), 0);
        x = Check.school("d005;d060;d060", "");
        x.masters(6);
        due("16: the least BOY", x.master(1), 1);
        due("16: his SUBJECT", x.master(2), 1);
        x.masters(5);
        due("16: the BOY ahead of the SUBJECT", x.master(1), 0);
        due("16: SUBJECT", x.master(2), 2);
        x = Check.school("c080", "a");
        due("16: 8 and 4 by DAY 10", x.master(0), 10);
        due("16: BOY", x.master(1), 0);
        due("16: SUBJECT", x.master(2), 1);
        x.masters(19);
        due("16: 10 LESSONS at most", x.master(0), NONE);
        x.masters(18);
        due("16: the last LESSON", x.master(0), 28);
        due("16: what 3", x.master(3), BAD);
        due("16: what -1", x.master(-1), BAD);
        x = Check.school("c120", "a");
        x.masters(1);
        due("16: SUBJECT 0 of BOY 0 on DAY 0", x.master(0), 0);
        due("16: SUBJECT 0 of BOY 0 on DAY 0", x.master(2), 0);
        x = Check.school("c000", "");
        x.masters(1);
        due("16: NONE", x.master(0), NONE);
    }

    private static void bestFormIdle() {
        MarkedByNext x = pair();
        due("17: BEST", x.best(), 1);
        due("18: FORM", x.form(), 18);
        due("19: IDLE", x.idle(), 2);
        x = Check.school("b000;d100", "ab");
        due("17: of like ones the least", x.best(), 0);
        due("18: FORM", x.form(), 4);
        due("19: nobody", x.idle(), 0);
        x = Check.school("c123;d456;b789", "");
        due("17: no MARKS", x.best(), 0);
        due("18: those that sit nowhere KNOW too", x.form(), 45);
        due("19: and are IDLE", x.idle(), 7);
        x = Check.school("c12", "a");
        due("17: no BOYS", x.best(), NONE);
        due("18: no BOYS", x.form(), 0);
        due("19: no BOYS", x.idle(), 0);
    }

    private static void sitting() {
        MarkedByNext x = Check.school("d000;c900;c000", "a.b");
        due("20: who", x.sit(1, 0), 1);
        due("20: how many", x.sit(1, 1), 9);
        due("20: of like ones the least", x.sit(0, 0), 0);
        due("20: none", x.sit(0, 1), 0);
        due("20: sits nowhere as told", x.sit(2, 0), NONE);
        due("20: sits nowhere as told", x.sit(2, 1), NONE);
        due("20: BOY 3", x.sit(3, 0), BAD);
        due("20: BOY -1", x.sit(-1, 0), BAD);
        due("20: what 2", x.sit(0, 2), BAD);
        due("20: what -1", x.sit(0, -1), BAD);
        x = Check.school("d000;c900;c999", "ac;b");
        due("20: who is told there has his", x.sit(1, 0), 1);
        due("20: how many", x.sit(1, 1), 9);
        x = pair();
        due("20: like ones in each: the least", x.sit(1, 0), 0);
        due("20: how many", x.sit(1, 1), 9);
    }

    private static void trading() {
        MarkedByNext x = Check.school("d000;c900", "a.b");
        due("21: how much as told", x.form(), 39);
        due("21: like ones: the least row", x.trade(29, 0), 0);
        due("21: like ones: the least row", x.trade(29, 1), 1);
        due("21: how much", x.trade(29, 2), 39);
        due("21: apart is better", x.trade(0, 0), 0);
        due("21: apart is better", x.trade(0, 1), 2);
        due("21: how much", x.trade(0, 2), 39);
        due("21: DAY 30", x.trade(30, 0), BAD);
        due("21: DAY -1", x.trade(-1, 0), BAD);
        due("21: what 3", x.trade(0, 3), BAD);
        due("21: what -1", x.trade(0, -1), BAD);
        x = Check.school("d000;c900", "ab.");
        for (int i = 0; i < 8; i++) {
            x.change(0, 1, 2);
        }
        due("21: whatever room", x.trade(0, 0), 1);
        due("21: apart", x.trade(0, 1), 2);
        due("21: FORM then", x.trade(0, 2), 39);
        due("21: nothing is told by it", x.count(4), 8);
        x = Check.school("d000;c900", ".ab");
        x.change(3, 1, 2);
        x.change(3, 0, 1);
        due("21: 1 of a, 9 and 27 of b", x.trade(3, 2), 37);
        due("21: behind all others: they stay apart by 0 and 2", x.trade(3, 0), 0);
        due("21: ahead of them it would be 1 and 2", x.trade(3, 1), 2);
        x = Check.school("d000", "a");
        due("21: one SEAT", x.trade(0, 0), NONE);
        due("21: one SEAT", x.trade(0, 2), NONE);
        due("21: BAD ahead of NONE", x.trade(0, 3), BAD);
        x = pair();
        due("21: two SEATS", x.trade(0, 0), 0);
        due("21: two SEATS", x.trade(0, 1), 1);
        due("21: two SEATS", x.trade(0, 2), 18);
    }

    private static void rushing() {
        MarkedByNext x = Check.school("c900;c090;d900;d090", "ac;bd");
        due("22: no MARKS as told", x.count(5), 0);
        due("22: the one", x.rush(0), 0);
        due("22: the other", x.rush(1), 1);
        due("22: what 2", x.rush(2), BAD);
        due("22: what -1", x.rush(-1), BAD);
        x = Check.school("c000;c900;d900;c090;d090", "bc;de");
        due("22: sits nowhere", x.rush(0), 1);
        due("22: least two", x.rush(1), 3);
        x = pair();
        due("22: nobody would", x.rush(0), NONE);
        due("22: nobody would", x.rush(1), NONE);
        x = Check.school("d000;c900", "a;b.");
        due("22: both must have more", x.rush(0), NONE);
        x = Check.school("c000;d000;c900", "ab;.c");
        due("22: c would have 9, a none more", x.rush(0), NONE);
        x = Check.school("c900;d000;c000", "ab;.c");
        due("22: c would have none more, a less", x.rush(0), NONE);
        x = Check.school("c090;c900;d900;d090", "ac;bd");
        due("22: all have their best already", x.rush(0), NONE);
    }

    private static void tables() {
        MarkedByNext x = Check.school("d000;d010", "a.b");
        x.change(0, 0, 1);
        x.change(1, 0, 1);
        due("23: how much as told", x.form(), 1);
        due("23: how much", x.table(NONE), 2);
        due("23: first", x.table(0), 1);
        due("23: second", x.table(1), 0);
        due("23: third", x.table(2), 2);
        due("23: i 3", x.table(3), BAD);
        due("23: i -2", x.table(-2), BAD);
        x = pair();
        due("23: of like ones the least", x.table(0), 0);
        due("23: of like ones the least", x.table(1), 1);
        due("23: of like ones the least", x.table(2), 2);
        due("23: how much", x.table(NONE), 18);
        x = Check.school("d000;d001", "a.b");
        x.change(1, 0, 1);
        x.change(2, 0, 1);
        due("23: on DAYS that leave 1", x.table(0), 0);
        due("23: on DAYS that leave 1", x.table(1), 2);
        due("23: on DAYS that leave 1", x.table(2), 1);
    }

    private static void spares() {
        MarkedByNext x = Check.school("d000;c900;d000;c900;d000", "ab.;cd.");
        x.change(0, 1, 2);
        x.change(10, 1, 2);
        x.change(10, 1, 2);
        x.change(0, 4, 5);
        x.change(10, 4, 5);
        due("24: none, and one that sits nowhere is nobody's care", x.idle(), 1 | 16);
        due("24: one", x.spare(NONE), 1);
        due("24: the first", x.spare(0), 1);
        due("24: no second", x.spare(1), NONE);
        x.change(10, 4, 5);
        due("24: two", x.spare(NONE), 2);
        due("24: the first", x.spare(0), 1);
        due("24: the second", x.spare(1), 4);
        x.back();
        x.back();
        x.back();
        x.back();
        due("24: neither will do: d is never alone", x.spare(NONE), NONE);
        due("24: the first", x.spare(0), NONE);
        due("24: i 2", x.spare(2), BAD);
        due("24: i -2", x.spare(-2), BAD);
        x = pairWithRoom();
        x.change(0, 1, 2);
        x.change(10, 1, 2);
        due("24: none is needed", x.spare(NONE), 0);
        due("24: no first", x.spare(0), NONE);
        due("24: no second", x.spare(1), NONE);
        x = Check.school("d000", "");
        due("24: nobody sits", x.spare(NONE), 0);
        x = pairWithRoom();
        x.change(29, 1, 2);
        x.change(29, 1, 2);
        due("24: the very first", x.spare(NONE), 1);
        due("24: the very first", x.spare(0), 0);
        x = Check.school("d000;c900;d000;c900", "ab.;cd.");
        x.change(29, 1, 2);
        x.change(29, 4, 5);
        x.change(29, 1, 2);
        x.change(29, 4, 5);
        due("24: the first two", x.spare(NONE), 2);
        due("24: the first two", x.spare(0), 0);
        due("24: the first two", x.spare(1), 1);
    }

    private static void seeing() {
        MarkedByNext x = new MarkedByNext();
        due("25: BOYS need not be there", x.seen(0, 7, 0, 0), 1);
        due("25: the greatest", x.seen(29, 0, 2, 30), 2);
        due("25: DAY 30", x.seen(30, 0, 0, 0), BAD);
        due("25: DAY -1", x.seen(-1, 0, 0, 0), BAD);
        due("25: BOY 8", x.seen(0, 8, 0, 0), BAD);
        due("25: BOY -1", x.seen(0, -1, 0, 0), BAD);
        due("25: SUBJECT 3", x.seen(0, 0, 3, 0), BAD);
        due("25: SUBJECT -1", x.seen(0, 0, -1, 0), BAD);
        due("25: 31", x.seen(0, 0, 0, 31), BAD);
        due("25: -1", x.seen(0, 0, 0, -1), BAD);
        due("25: refusals change nothing", x.count(7), 2);
        for (int n = 3; n <= 8; n++) {
            due("25: SEEN " + n, x.seen(0, 0, 0, 0), n);
        }
        due("25: a ninth", x.seen(0, 0, 0, 0), FULL);
        due("25: BAD ahead of FULL", x.seen(0, 0, 0, 31), BAD);
        due("26: forget()", x.forget(), 8);
        due("26: forget() again", x.forget(), 0);
        due("26: none is left", x.count(7), 0);
    }

    private static void nevers() {
        MarkedByNext x = pairWithRoom();
        due("27: no CHANGES", x.never(), 0);
        x.change(0, 1, 2);
        x.change(5, 0, 1);
        due("27: nothing SEEN", x.never(), 3);
        x.seen(0, 0, 0, 0);
        due("27: as told without the other", x.never(), 2);
        x.forget();
        x.seen(0, 0, 0, 1);
        due("27: together on DAY 0", x.never(), 1);
        x.seen(3, 0, 0, 2);
        due("27: all that was SEEN", x.never(), 1);
        x.seen(3, 0, 0, 1);
        due("27: never both", x.never(), 0);
        x.forget();
        x.seen(0, 2, 0, 0);
        due("27: a BOY that there is not", x.never(), 0);
        Check.typeIn(x, 0, ";c000");
        due("27: now there is one", x.never(), 3);
    }

    private static void sorts() {
        MarkedByNext x = pair();
        due("28: nothing SEEN", x.sort(0), 7);
        x.seen(0, 0, 0, 1);
        due("28: clever or dull", x.sort(0), 3);
        due("28: the other one, whatever he is", x.sort(1), 7);
        x.forget();
        x.seen(0, 0, 0, 2);
        due("28: a bully", x.sort(0), 4);
        due("28: the first is as told", x.sort(1), 0);
        x.forget();
        x.seen(0, 7, 0, 0);
        due("28: a BOY that there is not", x.sort(0), 0);
        due("28: sort(2)", x.sort(2), BAD);
        due("28: sort(-1)", x.sort(-1), BAD);
        due("28: his own stays", x.boy(0, 0), 1);
    }

    private static void firsts() {
        MarkedByNext x = pair();
        due("29: nothing SEEN", x.first(0, 0), 1023);
        x.seen(0, 0, 0, 9);
        due("29: 8 and 1, or 9", x.first(0, 0), 768);
        due("29: of another SUBJECT", x.first(0, 1), 0);
        due("29: of the other one: nothing is more by him", x.first(1, 0), 0);
        x.forget();
        x.seen(0, 0, 0, 1);
        due("29: 0 and 1", x.first(0, 0), 1);
        due("29: who KNOWS more: 1 to 9", x.first(1, 0), 1022);
        due("29: first(2, 0)", x.first(2, 0), BAD);
        due("29: first(-1, 0)", x.first(-1, 0), BAD);
        due("29: first(0, 3)", x.first(0, 3), BAD);
        due("29: first(0, -1)", x.first(0, -1), BAD);
        due("29: his own stays", x.boy(0, 1), 0);
        x = pair();
        x.seen(29, 1, 2, 4);
        due("29: the last SUBJECT", x.first(1, 2), 16);
        due("29: of him from whom he would have it", x.first(0, 2), 16);
    }

    private static void asks() {
        MarkedByNext x = pair();
        due("30: two are like behind DAY 0, more later", x.ask(0, 0), 0);
        due("30: of another SUBJECT", x.ask(0, 1), 0);
        due("30: of the last SUBJECT", x.ask(0, 2), 0);
        x.seen(0, 7, 0, 0);
        due("30: no FIRST is left", x.ask(0, 0), 0);
        due("30: ask(2, 0)", x.ask(2, 0), BAD);
        due("30: ask(-1, 0)", x.ask(-1, 0), BAD);
        due("30: ask(0, 3)", x.ask(0, 3), BAD);
        due("30: ask(0, -1)", x.ask(0, -1), BAD);
        laterAsk();
    }

    /**
     * The dull one sits between a bully with 1 and another with 2. Behind DAY 0 he has 2 by 0, 1 and 2: three are
     * like. By 2 alone the bully had then gained, so behind DAY 3 he has 2, 2, 3, 3 by 0 to 3: two are like. Behind
     * DAY 6 he has 3 by all four.
     */
    private static void laterAsk() {
        MarkedByNext x = Check.school("b100;d000;d200", "abc");
        due("30: a later DAY parts them", x.ask(1, 0), 3);
        x.seen(3, 1, 0, 2);
        due("29: those that are left", x.first(1, 0), 3);
        due("30: nothing parts them", x.ask(1, 0), 0);
        x.forget();
        x.seen(0, 1, 0, 2);
        due("29: those that are left", x.first(1, 0), 7);
        due("30: only those that are left", x.ask(1, 0), 3);
    }

    private static void luckIs(MarkedByNext x, int c, int boy, long above, long below) {
        due("31: luck(" + c + ", " + boy + ", 0)", x.luck(c, boy, 0), above);
        due("31: luck(" + c + ", " + boy + ", 1)", x.luck(c, boy, 1), below);
    }

    private static void lucks() {
        MarkedByNext x = pairWithRoom();
        luckIs(x, 5, 0, 0, 1);
        luckIs(x, 5, 1, 1, 1);
        x.change(0, 1, 2);
        luckIs(x, 4, 0, 1, 4);
        luckIs(x, 4, 1, 3, 4);
        luckIs(x, 5, 0, 5, 16);
        luckIs(x, 0, 0, 0, 1);
        luckIs(x, 0, 1, 1, 1);
        luckIs(x, 16, 0, 1, 1);
        luckIs(x, 16, 1, 0, 1);
        x.change(0, 2, 1);
        luckIs(x, 4, 0, 3, 8);
        luckIs(x, 4, 1, 5, 8);
        for (int i = 0; i < 6; i++) {
            x.change(0, 1, 2);
        }
        luckIs(x, 1, 0, 11012415L, 33554432L);
        luckIs(x, 1, 1, 33554432L - 11012415L, 33554432L);
        due("31: c 17", x.luck(17, 0, 0), LONG_BAD);
        due("31: c -1", x.luck(-1, 0, 0), LONG_BAD);
        due("31: BOY 2", x.luck(4, 2, 0), LONG_BAD);
        due("31: BOY -1", x.luck(4, -1, 0), LONG_BAD);
        due("31: what 2", x.luck(4, 0, 2), LONG_BAD);
        due("31: what -1", x.luck(4, 0, -1), LONG_BAD);
        x = Check.school("d000;c900", "ab;.");
        for (int i = 0; i < 7; i++) {
            x.change(i, 4, 5);
        }
        x.change(0, 1, 2);
        luckIs(x, 15, 0, 15, 16);
        x = pairWithRoom();
        for (int day = 0; day < 8; day++) {
            x.change(3 * day + 1, 3, 4);
        }
        luckIs(x, 7, 1, 1, 1);
    }

    /**
     * LOTS of SEED -1: 48697, 4409, 9862: DAY 7, SEATS 2 and 1; then DAY 26, SEATS 1 and 1, which is nothing. LOTS of
     * SEED 31: DAY 25, SEATS 1 and 2; then DAY 20, SEATS 2 and 1: apart on DAYS 20 to 24, together again behind them.
     */
    private static void manyYears() {
        MarkedByNext x = Check.school("d000;c900", "ab.");
        x.change(0, 1, 2);
        due("32: no CHANGES, in place of those told", x.years(1, 0, 0), 18);
        due("32: no CHANGES, in place of those told", x.years(1, 0, 1), 9);
        due("32: CHANGES told stay", x.count(4), 1);
        due("32: n 9", x.years(1, 9, 0), BAD);
        due("32: n -1", x.years(1, -1, 0), BAD);
        due("32: what 2", x.years(1, 1, 2), BAD);
        due("32: what -1", x.years(1, 1, -1), BAD);
        due("32: FORM, 9 and 3 of a, 23 of b", x.years(-1, 1, 0), 35);
        due("32: MARKS", x.years(-1, 1, 1), 3);
        due("32: a CHANGE that is nothing", x.years(-1, 2, 0), 35);
        due("32: by DAYS, FORM", x.years(31, 2, 0), 25);
        due("32: by DAYS, MARKS", x.years(31, 2, 1), 11);
        due("32: the first alone", x.years(31, 1, 0), 23);
        x = Check.school("d100;c900", "");
        due("32: no SEATS", x.years(1, 8, 0), 10);
        due("32: no SEATS", x.years(1, 8, 1), 0);
        x = Check.school("c000", "a");
        due("32: one and the same SEAT", x.years(9, 8, 0), 30);
    }

    private static void sheetsMadeAndLost() {
        MarkedByNext x = new MarkedByNext();
        due("33: bytes", x.sheet(0, 0, 60), 60);
        due("33: shorts", x.sheet(3, 1, 0), 0);
        due("33: ints", x.sheet(1, 2, 5), 5);
        due("33: SHEET 4", x.sheet(4, 0, 1), BAD);
        due("33: SHEET -1", x.sheet(-1, 0, 1), BAD);
        due("33: FORM 3", x.sheet(0, 3, 1), BAD);
        due("33: FORM -1", x.sheet(0, -1, 1), BAD);
        due("33: 61 items", x.sheet(0, 0, 61), BAD);
        due("33: no FINDING yet", x.count(8), 0);
        due("33: SIZE", x.sheet(0, 0, -1), SIZE);
        due("33: SIZE", x.sheet(0, 0, LEAST), SIZE);
        due("33: BAD ahead of SIZE", x.sheet(4, 0, -1), BAD);
        due("33: the FINDING", x.count(8), 5);
        due("33: the SHEET stays", x.lose(0), 60);
        due("33: a new row is empty", x.put(1, 2, 4, 99), 1);
        x.sheet(1, 2, 3);
        x.sheet(1, 2, 5);
        due("33: a new row is empty", x.get(1, 2, 4), 0);
        due("34: lose(3)", x.lose(3), 0);
        due("34: lose(3) again", x.lose(3), NULL);
        due("34: the FINDING", x.count(8), 1);
        due("34: lose(4)", x.lose(4), BAD);
        due("34: lose(-1)", x.lose(-1), BAD);
        due("34: lose(1)", x.lose(1), 5);
    }

    private static void itemsPutAndGot() {
        MarkedByNext x = new MarkedByNext();
        x.sheet(0, 0, 2);
        x.sheet(1, 1, 2);
        x.sheet(2, 2, 2);
        int[] kept = {-1, (short) 0x34ff, 0x1234_34ff};
        for (int form = 0; form < 3; form++) {
            due("35: put", x.put(form, form, 1, 0x1234_34ff), 1);
            due("36: the lowest bits", x.get(form, form, 1), kept[form]);
            due("36: 0 at first", x.get(form, form, 0), 0);
            due("35: INDEX", x.put(form, form, 2, 1), INDEX);
            due("35: the FINDING", x.count(8), 2);
            due("35: CAST", x.put(form, (form + 1) % 3, 0, 1), CAST);
            due("35: CAST ahead of INDEX", x.put(form, (form + 1) % 3, -1, 1), CAST);
            due("35: the FINDING", x.count(8), 3);
            due("36: INDEX", x.get(form, form, -1), LEAST);
            due("36: the FINDING", x.count(8), 2);
            due("36: CAST", x.get(form, (form + 2) % 3, MOST), LEAST);
            due("36: the FINDING", x.count(8), 3);
        }
        due("35: 128 as a byte", x.put(0, 0, 0, 128), 1);
        due("36: 128 as a byte", x.get(0, 0, 0), -128);
        due("35: 32768 as a short", x.put(1, 1, 0, 32768), 1);
        due("36: 32768 as a short", x.get(1, 1, 0), -32768);
        due("35: NULL ahead of CAST", x.put(3, 0, 9, 1), NULL);
        due("35: the FINDING", x.count(8), 1);
        due("35: INDEX of the least", x.put(0, 0, LEAST, 1), INDEX);
        due("36: NULL", x.get(3, 0, 0), LEAST);
        due("36: the FINDING", x.count(8), 1);
        due("35: SHEET 4", x.put(4, 0, 0, 0), BAD);
        due("35: SHEET -1", x.put(-1, 0, 0, 0), BAD);
        due("35: FORM 3", x.put(3, 3, 0, 0), BAD);
        due("35: FORM -1", x.put(0, -1, 0, 0), BAD);
        due("36: SHEET 4", x.get(4, 0, 0), LEAST);
        due("36: SHEET -1", x.get(-1, 0, 0), LEAST);
        due("36: FORM 3", x.get(0, 3, 0), LEAST);
        due("36: FORM -1", x.get(0, -1, 0), LEAST);
        due("36: BAD is no FINDING", x.count(8), 1);
    }

    private static void copies() {
        MarkedByNext x = new MarkedByNext();
        fillSheet(x, 0, 2, 1, 2, 3, 4, 5);
        x.sheet(1, 2, 3);
        x.sheet(2, 0, 9);
        due("37: copy", x.copy(0, 3, 1, 1, 2), 1);
        due("37: left alone", x.get(1, 2, 0), 0);
        due("37: come", x.get(1, 2, 1), 4);
        due("37: come", x.get(1, 2, 2), 5);
        due("37: as they were, upwards", x.copy(0, 0, 0, 1, 4), 1);
        int[] up = {1, 1, 2, 3, 4};
        for (int i = 0; i < 5; i++) {
            due("37: item " + i, x.get(0, 2, i), up[i]);
        }
        due("37: as they were, downwards", x.copy(0, 2, 0, 0, 3), 1);
        int[] down = {2, 3, 4, 3, 4};
        for (int i = 0; i < 5; i++) {
            due("37: item " + i, x.get(0, 2, i), down[i]);
        }
        due("37: none, at the end", x.copy(0, 5, 1, 3, 0), 1);
        due("37: none, behind the end", x.copy(0, 6, 1, 0, 0), INDEX);
        due("37: none, behind the other end", x.copy(0, 0, 1, 4, 0), INDEX);
        due("37: not so many in s", x.copy(0, 3, 1, 0, 3), INDEX);
        due("37: not so many in t", x.copy(0, 0, 1, 1, 3), INDEX);
        due("37: n below 0", x.copy(0, 0, 1, 0, -1), INDEX);
        due("37: i below 0", x.copy(0, -1, 1, 0, 1), INDEX);
        due("37: j below 0", x.copy(0, 0, 1, -1, 1), INDEX);
        due("37: numbers that would wrap", x.copy(0, MOST, 1, 0, MOST), INDEX);
        due("37: numbers that would wrap", x.copy(0, 0, 1, MOST, MOST), INDEX);
        due("37: the FINDING", x.count(8), 2);
        due("37: STORE ahead of INDEX", x.copy(0, -1, 2, 0, 1), STORE);
        due("37: STORE of none", x.copy(0, 0, 2, 0, 0), STORE);
        due("37: the FINDING", x.count(8), 4);
        due("37: NULL s", x.copy(3, 0, 2, 0, 1), NULL);
        due("37: NULL t", x.copy(2, 0, 3, 0, 1), NULL);
        due("37: the FINDING", x.count(8), 1);
        due("37: BAD s", x.copy(4, 0, 3, 0, 1), BAD);
        due("37: BAD t", x.copy(3, 0, 4, 0, 1), BAD);
        due("37: BAD s", x.copy(-1, 0, 0, 0, 1), BAD);
        due("37: BAD t", x.copy(0, 0, -1, 0, 1), BAD);
    }

    private static void marksWritten() {
        MarkedByNext x = pair();
        due("38: NULL", x.write(1, 0), NULL);
        due("38: the FINDING", x.count(8), 1);
        x.sheet(0, 2, 60);
        x.put(0, 2, 30, 77);
        due("38: 30 at most", x.write(1, 0), 30);
        for (int day = 0; day < 30; day++) {
            due("38: DAY " + day, x.get(0, 2, day), Math.min(day / 3 + 1, 9));
        }
        due("38: behind them", x.get(0, 2, 30), 77);
        x.sheet(1, 0, 4);
        due("38: as many as there are", x.write(1, 1), 4);
        due("38: DAY 3", x.get(1, 0, 3), 2);
        x.sheet(2, 1, 0);
        due("38: no items", x.write(1, 2), 0);
        x.sheet(3, 1, 30);
        due("38: the last SHEET", x.write(1, 3), 30);
        due("38: the last DAY", x.get(3, 1, 29), 9);
        due("38: BOY 2", x.write(2, 0), BAD);
        due("38: BOY -1", x.write(-1, 0), BAD);
        due("38: SHEET 4", x.write(0, 4), BAD);
        due("38: SHEET -1", x.write(0, -1), BAD);
        due("38: BAD ahead of NULL", x.write(2, 3), BAD);
        manyMarks();
    }

    /** Two bullies that help each other up beside a third: MARKS above 127 do not fit a byte. */
    private static void manyMarks() {
        MarkedByNext x = Check.school("b999;b000;b000", "bac");
        x.sheet(0, 0, 30);
        x.sheet(1, 1, 30);
        x.write(0, 0);
        x.write(0, 1);
        int marks = x.at(29, 0, 1);
        CHECK.holds("38: more than a byte has", marks > 127);
        due("38: as a byte", x.get(0, 0, 29), (byte) marks);
        due("38: as a short", x.get(1, 1, 29), marks);
    }

    private static void counts() {
        MarkedByNext x = Check.school("d000;c900", "ab.;.");
        x.change(29, 14, 15);
        x.seen(0, 0, 0, 0);
        x.seen(0, 0, 0, 0);
        x.sheet(0, 0, -1);
        int[] want = {2, 4, 9, 5, 1, 9, 0, 2, 5};
        for (int what = 0; what <= 8; what++) {
            due("39: count(" + what + ")", x.count(what), want[what]);
        }
        due("39: count(9)", x.count(9), BAD);
        x = Check.school("b900;d000;c000", "ab;.c;c.");
        due("39: with a FAULT no MARKS", x.count(5), 0);
        x.wipe(1);
        Check.typeIn(x, 1, "ab;.c");
        due("39: MARKS of all, BOY 0's too", x.count(5), 18);
        due("39: GHOSTS of all", x.count(6), 30);
        x.wipe(1);
        Check.typeIn(x, 1, ".c.");
        due("39: GHOSTS of the first SEAT too", x.count(6), 60);
        due("39: count(-1)", x.count(-1), BAD);
    }

    private static void digests() {
        MarkedByNext x = new MarkedByNext();
        due("40: a new object", x.digest(), Digest.of(x));
        x = Check.school("c159;d267;b048;d753;c391;b826;d914;c000", "abc.;de.f;.g;h");
        int[] told = {4, 0, 5, 4, 3, 9, 9, 1, 6, 12, 2, 11, 15, 7, 10, 20, 0, 12};
        for (int i = 0; i < told.length; i += 3) {
            x.change(told[i], told[i + 1], told[i + 2]);
        }
        due("40: a full school", x.digest(), Digest.of(x));
        x.seen(3, 2, 0, x.knows(3, 2, 0));
        due("40: with something SEEN", x.digest(), Digest.of(x));
        long before = x.digest();
        x.sheet(0, 0, -1);
        due("40: FINDINGS are not in it", x.digest(), before);
        x.type(0, ';');
        due("40: FULL changes nothing", x.digest(), before);
        x.type(1, 'x');
        due("40: with a FAULT", x.digest(), Digest.of(x));
    }

    /** The class keeps what it has found: each act that makes it wrong must make it find anew. */
    private static void answersKeptNoLongerThanTheyHold() {
        MarkedByNext x = pairWithRoom();
        due("kept: sit", x.sit(1, 1), 9);
        due("kept: luck", x.luck(8, 0, 0), 0);
        x.change(0, 1, 2);
        due("kept: sit behind change", x.sit(1, 0), 2);
        due("kept: luck behind change", x.luck(8, 0, 1), 2);
        due("kept: form", x.form(), 39);
        x.wipe(1);
        due("kept: form behind wipe", x.form(), 9);
        Check.typeIn(x, 1, "ab");
        due("kept: luck behind type", x.luck(8, 1, 0), 1);
        due("kept: first", x.first(0, 0), 1023);
        x.seen(0, 0, 0, 1);
        due("kept: first behind seen", x.first(0, 0), 1);
        x.forget();
        due("kept: first behind forget", x.first(0, 0), 1023);
        due("kept: spare", x.spare(NONE), NONE);
        x.undo(1);
        due("kept: spare behind undo", x.spare(NONE), NONE);
        x.undo(1);
        due("kept: spare behind undo", x.spare(NONE), 0);
        due("kept: table", x.table(NONE), 9);
        Check.typeIn(x, 1, "b");
        due("kept: table behind type", x.table(NONE), 39);
        due("kept: rush", x.rush(0), NONE);
        due("kept: table behind rush", x.table(2), 2);
    }
}
