/** Promises 1 to 8: texts, BOYS, BENCHES, MASTERS. */
final class TextBounds extends Bounds {
    TextBounds(Sayings sayings) {
        super(sayings);
    }

    @Override
    void all() {
        newObject();
        bytesOfBoys();
        numberOfBoys();
        kindsOfBoys();
        figures();
        signsBetween();
        bytesTyped();
        bytesOfBenches();
        numberOfBenches();
        seatsOfBenches();
        letters();
        textsNotEnded();
        firstWrongByte();
        ninthBoy();
        boysThatSitAlready();
        fifthSeat();
        fifthBench();
        faultMakesEmpty();
        boysNotThere();
        wiping();
        undoing();
        faultsAsked();
        boysAsked();
        seatsAsked();
        mastersTold();
    }

    private void newObject() {
        says("No BOYS, no BENCHES, no CHANGES; all SHEETS are LOST.");
        MarkedByNext x = new MarkedByNext();
        for (int what = 0; what <= 8; what++) {
            due(1, "count(" + what + ")", x.count(what), 0);
        }
        due(1, "no BOY 0", x.boy(0, 0), BAD);
        due(1, "no SEAT 0", x.seat(0, 0), BAD);
        due(1, "no CHANGE", x.back(), NOT);
        due(1, "nothing SEEN", x.forget(), 0);
        due(1, "12 at first", x.masters(12), 12);
        for (int s = 0; s <= 3; s++) {
            due(1, "SHEET " + s, x.lose(s), NULL);
        }
    }

    private void bytesOfBoys() {
        says("BOYS are a text of up to 39 bytes (text 0)");
        MarkedByNext x = new MarkedByNext();
        for (int n = 1; n <= 39; n++) {
            due(2, "byte " + n, x.type(0, EIGHT_BOYS.charAt(n - 1)), n);
        }
        due(2, "a fortieth", x.type(0, ';'), FULL);
        due(39, "39 bytes", x.count(2), 39);
        due(5, "all well", x.fault(0), NONE);
        due(4, "38 bytes", x.undo(0), 38);
        due(2, "39 again", x.type(0, '7'), 39);
        due(6, "the byte that came last", x.boy(7, 3), 7);
        due(2, "FULL again", x.type(0, '7'), FULL);
    }

    private void numberOfBoys() {
        says("8 at most (0 on)");
        MarkedByNext x = new MarkedByNext();
        due(39, "no BOYS", x.count(0), 0);
        Check.typeIn(x, 0, "c123");
        due(39, "one BOY", x.count(0), 1);
        due(6, "BOY 0", x.boy(0, 1), 1);
        due(6, "no BOY 1", x.boy(1, 1), BAD);
        Check.typeIn(x, 0, ";c223;c323;c423;c523;c623;c723");
        due(39, "7 BOYS", x.count(0), 7);
        due(6, "BOY 6", x.boy(6, 1), 7);
        due(6, "no BOY 7", x.boy(7, 1), BAD);
        Check.typeIn(x, 0, ";c823");
        due(39, "8 BOYS", x.count(0), 8);
        due(6, "BOY 7", x.boy(7, 1), 8);
        due(6, "no BOY 8", x.boy(8, 1), BAD);
        Check.typeIn(x, 0, ";c923");
        due(39, "no ninth", x.count(0), 8);
        due(5, "and no FAULT by it", x.fault(0), NONE);
    }

    private void kindsOfBoys() {
        says("c (clever), d (dull) or b (a bully)");
        for (int b = 0; b <= 255; b++) {
            MarkedByNext x = new MarkedByNext();
            x.type(0, b);
            Check.typeIn(x, 0, "000");
            int sort = "cdb".indexOf(b);
            due(5, "byte " + b, x.fault(0), sort < 0 ? 0 : NONE);
            due(6, "byte " + b, x.boy(0, 0), sort < 0 ? BAD : sort);
        }
    }

    private void figures() {
        says("and three figures 0 to 9, what one KNOWS at first of SUBJECTS 0 to 2.");
        for (int place = 1; place <= 3; place++) {
            for (int b : new int[] {0, 47, 48, 49, 56, 57, 58, 255}) {
                StringBuilder s = new StringBuilder("d555;b555");
                s.setCharAt(place, (char) b);
                MarkedByNext x = withText(0, s.toString());
                boolean isFigure = b >= 48 && b <= 57;
                due(5, "byte " + b + " at " + place, x.fault(0), isFigure ? NONE : place);
                due(6, "byte " + b + " at " + place, x.boy(0, place), isFigure ? b - 48 : BAD);
                due(13, "byte " + b + " at " + place, x.knows(0, 0, place - 1), isFigure ? b - 48 : BAD);
            }
        }
        due(5, "no third figure", withText(0, "d55").fault(0), 3);
        due(5, "a fourth figure", withText(0, "d5555").fault(0), 4);
    }

    private void signsBetween() {
        says("with ; between them");
        for (int b : new int[] {0, 58, 59, 60, 255}) {
            MarkedByNext x = withText(0, "c000" + (char) b + "c000");
            due(5, "BOYS, byte " + b, x.fault(0), b == ';' ? NONE : 4);
            due(39, "BOYS, byte " + b, x.count(0), b == ';' ? 2 : 0);
            x = withText(1, "." + (char) b + ".");
            due(5, "BENCHES, byte " + b, x.fault(1), b == ';' ? NONE : 1);
            due(39, "BENCHES, byte " + b, x.count(1), b == ';' ? 2 : 0);
        }
        due(5, "; ahead of BOYS", withText(0, ";c000").fault(0), 0);
        due(5, "; behind BOYS", withText(0, "c000;").fault(0), 5);
        due(5, "; twice", withText(0, "c000;;c000").fault(0), 5);
        due(5, "; ahead of BENCHES", withText(1, ";.").fault(1), 0);
        due(5, "; behind BENCHES", withText(1, ".;").fault(1), 2);
        due(5, "; twice", withText(1, ".;;.").fault(1), 2);
    }

    private void bytesTyped() {
        says("A byte (0 to 255) comes behind a text: how many. BAD; FULL.");
        for (int text = 0; text <= 1; text++) {
            MarkedByNext x = new MarkedByNext();
            due(2, "byte -1", x.type(text, -1), BAD);
            due(2, "byte 256", x.type(text, 256), BAD);
            due(2, "the least", x.type(text, LEAST), BAD);
            due(2, "the most", x.type(text, MOST), BAD);
            due(2, "256 more than c or .", x.type(text, 256 + (text == 0 ? 'c' : '.')), BAD);
            due(39, "none came", x.count(2 + text), 0);
            due(2, "byte 0", x.type(text, 0), 1);
            due(2, "byte 1", x.type(text, 1), 2);
            due(2, "byte 254", x.type(text, 254), 3);
            due(2, "byte 255", x.type(text, 255), 4);
            due(39, "four came", x.count(2 + text), 4);
            due(39, "to this text alone", x.count(3 - text), 0);
            due(5, "byte 0 is a FAULT", x.fault(text), 0);
        }
        MarkedByNext x = new MarkedByNext();
        due(2, "text -1", x.type(-1, 'c'), BAD);
        due(2, "text 2", x.type(2, 'c'), BAD);
        due(2, "the least text", x.type(LEAST, 'c'), BAD);
        due(2, "the greatest text", x.type(MOST, 'c'), BAD);
        due(39, "none came", x.count(2) + x.count(3), 0);
    }

    private void bytesOfBenches() {
        says("BENCHES are a text of up to 19 bytes (text 1)");
        MarkedByNext x = new MarkedByNext();
        for (int n = 1; n <= 19; n++) {
            due(2, "byte " + n, x.type(1, SIXTEEN_SEATS.charAt(n - 1)), n);
        }
        due(2, "a twentieth", x.type(1, '.'), FULL);
        due(39, "19 bytes", x.count(3), 19);
        due(39, "16 SEATS", x.count(1), 16);
        due(5, "all well", x.fault(1), NONE);
        due(4, "18 bytes", x.undo(1), 18);
        due(39, "15 SEATS", x.count(1), 15);
        due(7, "SEAT 14", x.seat(14, 1), 3);
        due(7, "no SEAT 15", x.seat(15, 1), BAD);
        due(2, "19 again", x.type(1, '.'), 19);
        due(7, "SEAT 15", x.seat(15, 1), 3);
        due(7, "no SEAT 16", x.seat(16, 1), BAD);
    }

    private void numberOfBenches() {
        says("4 at most (0 on), with ; between them, each of 1 to 4 SEATS");
        due(39, "no BENCH", withText(1, "").count(1), 0);
        due(7, "BENCH 0", withText(1, ".").seat(0, 1), 0);
        due(7, "BENCH 2 of three", withText(1, ".;.;.").seat(2, 1), 2);
        MarkedByNext x = withText(1, ".;.;.;.");
        due(7, "BENCH 3 of four", x.seat(3, 1), 3);
        due(5, "four are well", x.fault(1), NONE);
        due(39, "four SEATS", x.count(1), 4);
        Check.typeIn(x, 1, ";.");
        due(39, "five are as if there was none", x.count(1), 0);
    }

    private void seatsOfBenches() {
        says("each of 1 to 4 SEATS (numbered from 0 on, BENCH behind BENCH)");
        for (int bench = 0; bench <= 3; bench++) {
            String ahead = ".;".repeat(bench);
            int start = ahead.length();
            due(5, "no SEAT on BENCH " + bench, withText(1, ahead + ";").fault(1), start);
            due(39, "1 SEAT on BENCH " + bench, withText(1, ahead + ".").count(1), bench + 1);
            due(39, "3 SEATS on BENCH " + bench, withText(1, ahead + "...").count(1), bench + 3);
            MarkedByNext x = withText(1, ahead + "....");
            due(39, "4 SEATS on BENCH " + bench, x.count(1), bench + 4);
            due(7, "its first SEAT", x.seat(bench, 1), bench);
            due(7, "its last SEAT", x.seat(bench + 3, 1), bench);
            due(7, "none behind it", x.seat(bench + 4, 1), BAD);
            due(5, "5 SEATS on BENCH " + bench, withText(1, ahead + ".....").fault(1), start + 4);
        }
        MarkedByNext x = withText(1, "....;....;....;....");
        for (int seat = 0; seat <= 15; seat++) {
            due(7, "BENCH of SEAT " + seat, x.seat(seat, 1), seat / 4);
        }
    }

    private void letters() {
        says("a letter a to h, the BOY (0 to 7) who sits there, or . (nobody)");
        for (int b = 0; b <= 255; b++) {
            MarkedByNext x = withText(0, EIGHT_BOYS);
            x.type(1, b);
            boolean isLetter = b >= 97 && b <= 104;
            due(5, "byte " + b, x.fault(1), isLetter || b == 46 ? NONE : 0);
            due(7, "byte " + b, x.seat(0, 0), isLetter ? b - 97 : b == 46 ? NONE : BAD);
        }
    }

    private void textsNotEnded() {
        says("(an empty one is well; of one that is not ended, its end)");
        MarkedByNext x = new MarkedByNext();
        due(5, "empty BOYS", x.fault(0), NONE);
        due(5, "empty BENCHES", x.fault(1), NONE);
        for (int n = 1; n <= 39; n++) {
            x.type(0, EIGHT_BOYS.charAt(n - 1));
            due(5, n + " bytes of BOYS", x.fault(0), n % 5 == 4 ? NONE : n);
            due(39, n + " bytes of BOYS", x.count(0), n % 5 == 4 ? (n + 1) / 5 : 0);
        }
        for (int n = 1; n <= 19; n++) {
            x.type(1, SIXTEEN_SEATS.charAt(n - 1));
            due(5, n + " bytes of BENCHES", x.fault(1), n % 5 == 0 ? n : NONE);
            due(39, n + " bytes of BENCHES", x.count(1), n % 5 == 0 ? 0 : n - n / 5);
        }
        due(5, "its end at 18", withText(1, "....;....;....;..;").fault(1), 18);
        due(5, "its end at 19, where it is full", withText(1, "....;....;....;...;").fault(1), 19);
        x.wipe(0);
        due(5, "empty again", x.fault(0), NONE);
    }

    private void firstWrongByte() {
        says("the place of the first byte with which it cannot go on");
        due(5, "the first byte of BOYS", withText(0, "xc000").fault(0), 0);
        due(5, "the last byte of BOYS", withText(0, EIGHT_BOYS.substring(0, 38) + "x").fault(0), 38);
        due(5, "the last but one", withText(0, EIGHT_BOYS.substring(0, 37) + "x").fault(0), 37);
        due(5, "the first of two", withText(0, "cx00;x000").fault(0), 1);
        due(5, "a wrong byte ahead of an end", withText(0, "c0x").fault(0), 2);
        due(5, "the first byte of BENCHES", withText(1, "x...").fault(1), 0);
        due(5, "the last byte of BENCHES", withText(1, "....;....;....;...x").fault(1), 18);
        due(5, "the first of two", withText(1, "..x;x").fault(1), 2);
        due(5, "a wrong byte ahead of one that sits already", withText(1, "axa").fault(1), 1);
        due(5, "one that sits already ahead of a wrong byte", withText(1, "aax").fault(1), 1);
    }

    /** He would begin at byte 40, and there is room for 39: so there is neither a ninth BOY nor a FAULT by him. */
    private void ninthBoy() {
        says("here also of the first byte of a ninth BOY");
        MarkedByNext x = withText(0, EIGHT_BOYS.substring(0, 34));
        due(5, "seven", x.fault(0), NONE);
        x.type(0, ';');
        due(5, "an eighth not begun: its end", x.fault(0), 35);
        Check.typeIn(x, 0, "c000");
        due(5, "eight", x.fault(0), NONE);
        due(2, "no room for what would part him from a ninth", x.type(0, ';'), FULL);
        due(2, "nor for the ninth", x.type(0, 'c'), FULL);
        due(5, "eight", x.fault(0), NONE);
        due(39, "eight", x.count(0), 8);
    }

    private void boysThatSitAlready() {
        says("of a BOY that sits already");
        for (char letter = 'a'; letter <= 'h'; letter++) {
            due(5, letter + " twice on a BENCH", withText(1, "" + letter + letter).fault(1), 1);
            due(5, letter + " on two BENCHES", withText(1, letter + ";" + letter).fault(1), 2);
        }
        due(5, "in the last SEAT", withText(1, "abcd;efgh;....;...a").fault(1), 18);
        due(5, "once each", withText(1, "abcd;efgh;....;....").fault(1), NONE);
        due(5, "nobody as often as may be", withText(1, "....").fault(1), NONE);
        MarkedByNext x = withText(1, "aa");
        x.undo(1);
        due(5, "once again", x.fault(1), NONE);
        due(2, "then another", x.type(1, 'b'), 2);
        due(5, "then another", x.fault(1), NONE);
    }

    private void fifthSeat() {
        says("of a fifth SEAT of a BENCH");
        due(5, "a fourth", withText(1, "abcd").fault(1), NONE);
        due(5, "a fifth", withText(1, "abcde").fault(1), 4);
        due(5, "a fifth, nobody's", withText(1, "abcd.").fault(1), 4);
        due(5, "a sixth: still the fifth", withText(1, "abcdef").fault(1), 4);
        due(5, "the fifth in all, on another BENCH", withText(1, "abcd;e").fault(1), NONE);
        due(5, "on the second BENCH", withText(1, "a;bcdef").fault(1), 6);
    }

    private void fifthBench() {
        says("of the first byte of a fifth BENCH");
        due(5, "a fourth", withText(1, "a;b;c;d").fault(1), NONE);
        due(5, "not begun: its end", withText(1, "a;b;c;d;").fault(1), 8);
        due(5, "a fifth", withText(1, "a;b;c;d;e").fault(1), 8);
        due(5, "a fifth, nobody's", withText(1, "a;b;c;d;.").fault(1), 8);
        due(5, "more of it: still its first byte", withText(1, "a;b;c;d;ef").fault(1), 8);
        due(5, "in the last place", withText(1, "....;....;....;..;.").fault(1), 18);
    }

    private void faultMakesEmpty() {
        says("With a FAULT a text is as if it was empty.");
        MarkedByNext x = school("c900;d000", "ab;.");
        x.type(0, 'x');
        due(5, "FAULT", x.fault(0), 9);
        due(39, "no BOYS", x.count(0), 0);
        due(6, "no BOY 0", x.boy(0, 0), BAD);
        due(39, "its bytes are there", x.count(2), 10);
        due(7, "nobody sits", x.seat(0, 0), NONE);
        due(17, "nobody is BEST", x.best(), NONE);
        due(18, "nothing is KNOWN", x.form(), 0);
        due(39, "SEATS stay", x.count(1), 3);
        due(4, "undone", x.undo(0), 9);
        due(39, "BOYS again", x.count(0), 2);
        due(7, "they sit again", x.seat(0, 0), 0);
        x.type(1, 'x');
        due(39, "no SEATS", x.count(1), 0);
        due(7, "no SEAT 0", x.seat(0, 0), BAD);
        due(39, "its bytes are there", x.count(3), 5);
        due(12, "he sits nowhere", x.at(0, 0, 0), NONE);
        due(21, "less than two SEATS", x.trade(0, 0), NONE);
        due(20, "he sits nowhere as told", x.sit(0, 0), NONE);
        due(3, "wiped", x.wipe(1), 5);
        due(5, "well", x.fault(1), NONE);
    }

    private void boysNotThere() {
        says("In the SEAT of a BOY that is not there sits nobody.");
        MarkedByNext x = school("c000;c000", "ac;b");
        due(7, "BOY 1 of two", x.seat(2, 0), 1);
        due(7, "BOY 2 of two", x.seat(1, 0), NONE);
        due(14, "BOY 2 of two", x.sits(0, 1), NONE);
        due(12, "BOY 0 has nobody BESIDE", x.at(0, 0, 2), 1);
        due(15, "his SEAT has a GHOST", x.ghost(1), 30);
        Check.typeIn(x, 0, ";c000");
        due(7, "BOY 2 of three", x.seat(1, 0), 2);
        due(12, "BOY 0 has somebody BESIDE", x.at(0, 0, 2), 0);
        due(15, "no GHOST", x.ghost(1), 0);
        x = school("", "abcd;efgh");
        for (int seat = 0; seat <= 7; seat++) {
            due(7, "no BOYS: SEAT " + seat, x.seat(seat, 0), NONE);
        }
    }

    private void wiping() {
        says("A text is empty: how many bytes it had. BAD.");
        MarkedByNext x = school(EIGHT_BOYS, SIXTEEN_SEATS);
        due(3, "text -1", x.wipe(-1), BAD);
        due(3, "text 2", x.wipe(2), BAD);
        due(39, "nothing is wiped", x.count(2) + x.count(3), 58);
        due(3, "39", x.wipe(0), 39);
        due(39, "the other one stays", x.count(3), 19);
        due(3, "an empty one", x.wipe(0), 0);
        due(3, "19", x.wipe(1), 19);
        due(3, "an empty one", x.wipe(1), 0);
        due(2, "then one", x.type(0, 'x'), 1);
        due(3, "one", x.wipe(0), 1);
    }

    private void undoing() {
        says("The last byte of a text is undone: how many are left. BAD; NOT: it is empty.");
        MarkedByNext x = school(EIGHT_BOYS, SIXTEEN_SEATS);
        due(4, "text -1", x.undo(-1), BAD);
        due(4, "text 2", x.undo(2), BAD);
        for (int n = 38; n >= 0; n--) {
            due(4, "BOYS", x.undo(0), n);
        }
        due(4, "empty BOYS", x.undo(0), NOT);
        for (int n = 18; n >= 0; n--) {
            due(4, "BENCHES", x.undo(1), n);
        }
        due(4, "empty BENCHES", x.undo(1), NOT);
        due(4, "still text 2", x.undo(2), BAD);
        due(2, "a byte", x.type(1, '.'), 1);
        due(4, "it", x.undo(1), 0);
        due(4, "empty again", x.undo(1), NOT);
    }

    private void faultsAsked() {
        says("The FAULT of a text; NONE. BAD.");
        MarkedByNext x = school("x", ".x");
        due(5, "text -1", x.fault(-1), BAD);
        due(5, "text 0", x.fault(0), 0);
        due(5, "text 1", x.fault(1), 1);
        due(5, "text 2", x.fault(2), BAD);
        due(5, "the least", x.fault(LEAST), BAD);
        due(5, "the most", x.fault(MOST), BAD);
        x = new MarkedByNext();
        due(5, "well", x.fault(0), NONE);
        due(5, "well", x.fault(1), NONE);
    }

    private void boysAsked() {
        says("His sort (what = 0: 0 c, 1 d, 2 b), what he KNOWS at first of SUBJECTS 0 to 2 (1 to 3). BAD.");
        MarkedByNext x = school("b129", "");
        due(6, "what -1", x.boy(0, -1), BAD);
        due(6, "what 0", x.boy(0, 0), 2);
        due(6, "what 1", x.boy(0, 1), 1);
        due(6, "what 2", x.boy(0, 2), 2);
        due(6, "what 3", x.boy(0, 3), 9);
        due(6, "what 4", x.boy(0, 4), BAD);
        due(6, "BOY -1", x.boy(-1, 0), BAD);
        due(6, "BOY 1 of one", x.boy(1, 0), BAD);
        due(6, "BOY 7 of one", x.boy(7, 0), BAD);
        due(6, "the least", x.boy(LEAST, 0), BAD);
        due(6, "the most", x.boy(0, MOST), BAD);
    }

    private void seatsAsked() {
        says("Who sits in a SEAT as told (what = 0; NONE), its BENCH (1). BAD.");
        MarkedByNext x = school("c000;c000", "a.;b");
        x.change(0, 0, 1);
        due(7, "SEAT -1", x.seat(-1, 0), BAD);
        due(7, "SEAT 0, as told", x.seat(0, 0), 0);
        due(7, "SEAT 1, as told", x.seat(1, 0), NONE);
        due(7, "SEAT 2", x.seat(2, 0), 1);
        due(7, "SEAT 2", x.seat(2, 1), 1);
        due(7, "SEAT 3 of three", x.seat(3, 0), BAD);
        due(7, "SEAT 15 of three", x.seat(15, 1), BAD);
        due(7, "what -1", x.seat(0, -1), BAD);
        due(7, "what 2", x.seat(0, 2), BAD);
        due(7, "the most", x.seat(MOST, 0), BAD);
        due(7, "the least", x.seat(LEAST, 1), BAD);
    }

    private void mastersTold() {
        says("MASTERS KNOW so much (1 to 30; 12 at first).");
        MarkedByNext x = new MarkedByNext();
        due(8, "0", x.masters(0), BAD);
        due(8, "-1", x.masters(-1), BAD);
        due(8, "31", x.masters(31), BAD);
        due(8, "the most", x.masters(MOST), BAD);
        due(8, "the least", x.masters(LEAST), BAD);
        due(8, "1; 12 at first", x.masters(1), 12);
        due(8, "2", x.masters(2), 1);
        due(8, "29", x.masters(29), 2);
        due(8, "30", x.masters(30), 29);
        says("MASTERS: what it was. BAD.");
        due(8, "31", x.masters(31), BAD);
        due(8, "what it was, whatever was refused", x.masters(30), 30);
        due(8, "the same again", x.masters(12), 30);
    }
}
