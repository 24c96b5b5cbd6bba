/** The sentences on texts that name a boundary case: TEXTS and FAULTS of the Terms, promises 6 to 8. */
final class TextEdges {
    private static final String LAW = "law 30 20 5;";
    private static final String ONE = "mill fixed 1 2 3 4 5 6;";
    private static final int AT_LAW_END = 12;

    private TextEdges() {
    }

    static void run() {
        termsTapeOf400Bytes();
        termsLetters();
        termsFigures();
        termsThreeFigures();
        termsSigns();
        termsBlanks();
        termsAsManyBlanksAsWanted();
        termsNoBlankNeeded();
        termsOneMillAtLeast();
        termsLaw();
        termsTake();
        termsDue();
        termsPrice();
        termsMill();
        termsSorts();
        termsPlaces();
        termsFloors();
        termsSails();
        termsAge();
        termsCorn();
        termsEightMills();
        termsInPlaceOfTheOneBefore();
        termsHour0();
        termsAllFaceQuarter0();
        termsNoneFurls();
        termsImagesAndRowsStay();
        faultsFirstToken();
        faultsLeastOfOneToken();
        faultsCannotStand();
        faultsNoToken();
        faultsFourFigures();
        faultsTheEnd();
        faultsNotAsTold();
        faultsOnePlace();
        faultsNoRoom();
        promise6LowestBytes();
        promise6HowMany();
        promise6Bad();
        promise6Full();
        promise7HowManyMills();
        promise7TapeIsEmpty();
        promise7PlaceOfAFault();
        promise7AllStays();
        promise8Latest();
        promise8Before();
    }

    private static void termsTapeOf400Bytes() {
        Edge e = Edge.ofTerms("TEXTS: THE TAPE has at most 400 bytes");
        String text = LAW + blanks(400 - LAW.length() - ONE.length()) + ONE;
        WindTaken x = new WindTaken();
        e.due("feed, the 400th", Texts.feed(x, text), 400);
        e.full("feed(32, 1), one more", x.feed(32L, 1));
        e.due("ridge(), the 400th is its last", x.ridge(), 1);
        e.due("feed, room for 400 again", Texts.feed(x, text), 400);
        e.due("ridge() again", x.ridge(), 1);
    }

    /** Bytes 96 and 123 stand beside the letters, 65 to 90 are capitals. */
    private static void termsLetters() {
        Edge e = Edge.ofTerms("TOKENS: NAMES (letters a to z)");
        e.fault("lawa 30", 0, 1);
        e.fault("lawz 30", 0, 1);
        e.fault("law` 30", 3, 1);
        e.fault("law{ 30", 3, 1);
        e.fault("lawA 30", 3, 1);
        e.fault("lawZ 30", 3, 1);
        e.fault("LAW 30", 0, 1);
        e.fault("law\u00e1 30", 3, 1);
    }

    /** Bytes 47 and 58 stand beside the figures. */
    private static void termsFigures() {
        Edge e = Edge.ofTerms("NUMBERS (figures");
        e.reads("law 90 10 09;" + ONE, 1);
        e.fault("law 3/ 0 0;", 5, 1);
        e.fault("law 3: 0 0;", 5, 1);
        e.fault("law -1 0 0;", 4, 1);
        e.fault("law +1 0 0;", 4, 1);
        e.fault("law 1.0 0 0;", 5, 1);
        e.fault("law 1a 0 0;", 5, 1);
    }

    private static void termsThreeFigures() {
        Edge e = Edge.ofTerms(", 3 at most)");
        e.reads("law 090 050 099;mill ruin 020 020 009 009 099 999;", 1);
        e.reads("law 000 000 000;mill ruin 000 000 001 001 000 000;", 1);
        e.fault("law 0090 0 0;", 4, 1);
        e.fault(LAW + "mill fixed 1 2 3 4 5 0006;", 33, 1);
        e.fault(LAW + "mill fixed 1 2 3 4 5 1000;", 33, 1);
    }

    private static void termsSigns() {
        Edge e = Edge.ofTerms(", SIGNS ;");
        e.reads(LAW + ONE, 1);
        for (char sign : new char[] {':', '<', ',', '.', '-', '{', '}', '\''}) {
            e.fault("law 30 20 5" + sign, 11, 1);
        }
        e.fault("law 30 20 5 mill", 12, 1);
        e.fault(LAW + ";", 12, 1);
        e.fault(";" + LAW, 0, 1);
    }

    private static void termsBlanks() {
        Edge e = Edge.ofTerms("bytes 32 and 10 ahead of, between, behind these");
        e.reads(" \n" + LAW + "\n " + ONE + " \n", 1);
        e.reads("\nlaw\n30\n20\n5\n;\nmill\nfixed\n1\n2\n3\n4\n5\n6\n;\n", 1);
        for (char other : new char[] {0, 9, 11, 13, 31, 33, 127, 128, 160, 255}) {
            e.fault(other + LAW + ONE, 0, 1);
            e.fault("law" + other + "30 20 5;", 3, 1);
            e.fault("law 30" + other + " 20 5;", 6, 1);
            e.fault(LAW + ONE + other, 35, 1);
        }
    }

    private static void termsAsManyBlanksAsWanted() {
        Edge e = Edge.ofTerms(", as many as wanted");
        int room = 400 - LAW.length() - ONE.length();
        e.reads(blanks(room) + LAW + ONE, 1);
        e.reads(LAW + ONE + blanks(room), 1);
        e.reads("law" + blanks(room) + LAW.substring(3) + ONE, 1);
        e.fault(blanks(400), 400, 1);
    }

    private static void termsNoBlankNeeded() {
        Edge e = Edge.ofTerms("(none is needed where one ends without)");
        e.reads("law30 20 5;mill fixed1 2 3 4 5 6;mill ruin0 0 1 1 0 0;", 2);
        e.fault("lawmill", 0, 1);
        e.fault(LAW + "millfixed 1 2 3 4 5 6;", 12, 1);
        e.fault("law 30 205;", 7, 2);
        e.fault("law 3020 5;", 4, 1);
    }

    private static void termsOneMillAtLeast() {
        Edge e = Edge.ofTerms("ridge: law mill { mill }.");
        e.fault("", 0, 1);
        e.fault(LAW, 12, 1);
        e.reads(LAW + ONE, 1);
        e.reads(LAW + ONE + "mill ruin 0 0 1 1 0 0;", 2);
        e.fault(ONE, 0, 1);
        e.fault(LAW + LAW + ONE, 12, 1);
        e.fault(LAW + ONE + LAW, 35, 1);
    }

    private static void termsLaw() {
        Edge e = Edge.ofTerms("law: 'law' TAKE DUE PRICE ';'");
        e.fault("30 20 5;", 0, 1);
        e.fault("law ;", 4, 1);
        e.fault("law 30;", 6, 1);
        e.fault("law 30 20;", 9, 1);
        e.fault("law 30 20 5 6;", 12, 1);
        e.fault("law 30 20 5 " + ONE, 12, 1);
        e.fault("law law 30 20 5;", 4, 1);
    }

    private static void termsTake() {
        Edge e = Edge.ofTerms("(TAKE 0 to 90 of 100");
        String two = " 0 0; mill hooded 5 5 1 1 0 0; mill hooded 5 4 1 1 0 0;";
        e.due("0 of 100 taken", Texts.ridgeOf("law 0" + two).left(0, 0, 100, 0), 100);
        e.due("90 of 100 taken", Texts.ridgeOf("law 90" + two).left(0, 0, 100, 0), 10);
        e.fault("law 91" + two, 4, 2);
        e.fault("law 100" + two, 4, 2);
        e.fault("law 999" + two, 4, 2);
    }

    private static void termsDue() {
        Edge e = Edge.ofTerms("DUE 0 to 50 of 100");
        String two = " 0; mill hooded 5 5 1 2 9 99; mill hooded 5 4 1 1 0 99;";
        e.due("0 of 10 owed", Texts.ridgeOf("law 50 0" + two).owes(0, 100, 1, 0), 0);
        e.due("50 of 10 owed", Texts.ridgeOf("law 50 50" + two).owes(0, 100, 1, 0), 5);
        e.fault("law 50 51" + two, 7, 2);
        e.fault("law 50 999" + two, 7, 2);
    }

    private static void termsPrice() {
        Edge e = Edge.ofTerms("PRICE 0 to 99)");
        String two = "; mill water 5 5 1 1 0 99; mill water 9 9 1 1 0 0;";
        e.due("0 is none above 0", Texts.ridgeOf("law 0 0 0" + two).still(0, 0, 1, 0, 2), 1);
        e.due("nor 99", Texts.ridgeOf("law 0 0 99" + two).still(0, 0, 1, 0, 2), 0);
        e.fault("law 0 0 100" + two, 8, 2);
        e.fault("law 0 0 999" + two, 8, 2);
    }

    /** Each token of a mill missing: the one behind it cannot stand there. */
    private static void termsMill() {
        Edge e = Edge.ofTerms("mill: 'mill' SORT X Y FLOORS SAILS AGE CORN ';'");
        e.fault(LAW + "fixed 1 2 3 4 5 6;", 12, 1);
        e.fault(LAW + "mill 1 2 3 4 5 6;", 17, 1);
        String[] fewer = {"", " 1", " 1 2", " 1 2 3", " 1 2 3 4", " 1 2 3 4 5"};
        for (String numbers : fewer) {
            e.fault(LAW + "mill fixed" + numbers + ";", 22 + numbers.length(), 1);
        }
        e.fault(LAW + "mill fixed 1 2 3 4 5 6 7;", 35, 1);
        e.fault(LAW + "mill fixed 1 2 3 4 5 6 " + ONE, 35, 1);
        e.fault(LAW + "mill fixed fixed 1 2 3 4 5 6;", 23, 1);
    }

    private static void termsSorts() {
        Edge e = Edge.ofTerms("(SORT: 'fixed' | 'hooded' | 'half' | 'water' | 'ruin'");
        String[] sorts = {"fixed", "hooded", "half", "water", "ruin"};
        for (String sort : sorts) {
            e.reads(LAW + "mill " + sort + " 0 0 1 1 0 0;", 1);
            e.fault(LAW + "mill " + sort + "s 0 0 1 1 0 0;", 17, 1);
            e.fault(LAW + "mill " + sort.substring(1) + " 0 0 1 1 0 0;", 17, 1);
            e.fault(LAW + "mill " + sort.substring(0, 3) + " 0 0 1 1 0 0;", 17, 1);
        }
        e.fault(LAW + "mill mill 0 0 1 1 0 0;", 17, 1);
        e.fault(LAW + "mill law 0 0 1 1 0 0;", 17, 1);
    }

    private static void termsPlaces() {
        Edge e = Edge.ofTerms("; X, Y 0 to 20");
        WindTaken x = Texts.ridgeOf(LAW + "mill ruin 0 20 1 1 0 0; mill ruin 20 0 1 1 0 0;");
        e.due("X 0", x.mill(0, 8), 0);
        e.due("Y 20", x.mill(0, 9), 20);
        e.due("X 20", x.mill(1, 8), 20);
        e.due("Y 0", x.mill(1, 9), 0);
        e.fault(LAW + "mill ruin 21 0 1 1 0 0;", 22, 2);
        e.fault(LAW + "mill ruin 999 0 1 1 0 0;", 22, 2);
        e.fault(LAW + "mill ruin 0 21 1 1 0 0;", 24, 2);
        e.fault(LAW + "mill ruin 0 999 1 1 0 0;", 24, 2);
    }

    private static void termsFloors() {
        Edge e = Edge.ofTerms("; 1 to 9;");
        e.due("1", Texts.ridgeOf(LAW + "mill ruin 0 0 1 1 0 0;").mill(0, 0), 1);
        e.due("9", Texts.ridgeOf(LAW + "mill ruin 0 0 9 1 0 0;").mill(0, 0), 9);
        e.fault(LAW + "mill ruin 0 0 0 1 0 0;", 26, 2);
        e.fault(LAW + "mill ruin 0 0 10 1 0 0;", 26, 2);
        e.fault(LAW + "mill ruin 0 0 999 1 0 0;", 26, 2);
    }

    private static void termsSails() {
        Edge e = Edge.ofTerms("; 1 to 9; 1 to 9;");
        e.due("1", Texts.ridgeOf(LAW + "mill ruin 0 0 5 1 0 0;").mill(0, 1), 1);
        e.due("9", Texts.ridgeOf(LAW + "mill ruin 0 0 5 9 0 0;").mill(0, 1), 9);
        e.fault(LAW + "mill ruin 0 0 5 0 0 0;", 28, 2);
        e.fault(LAW + "mill ruin 0 0 5 10 0 0;", 28, 2);
        e.fault(LAW + "mill ruin 0 0 5 999 0 0;", 28, 2);
    }

    private static void termsAge() {
        Edge e = Edge.ofTerms("; 0 to 99;");
        e.due("0", Texts.ridgeOf(LAW + "mill ruin 0 0 1 1 0 5;").mill(0, 2), 0);
        e.due("99", Texts.ridgeOf(LAW + "mill ruin 0 0 1 1 99 5;").mill(0, 2), 99);
        e.fault(LAW + "mill ruin 0 0 1 1 100 5;", 30, 2);
        e.fault(LAW + "mill ruin 0 0 1 1 999 5;", 30, 2);
    }

    private static void termsCorn() {
        Edge e = Edge.ofTerms("; 0 to 999;");
        e.due("0", Texts.ridgeOf(LAW + "mill ruin 0 0 1 1 5 0;").mill(0, 3), 0);
        e.due("999", Texts.ridgeOf(LAW + "mill ruin 0 0 1 1 5 999;").mill(0, 3), 999);
        e.fault(LAW + "mill ruin 0 0 1 1 5 1000;", 32, 1);
    }

    private static void termsEightMills() {
        Edge e = Edge.ofTerms("MILLS 0 .. 7, 8 at most).");
        WindTaken x = Texts.ridgeOf(LAW + mills(8));
        e.due("count(1)", x.count(1), 8);
        e.due("kind(7)", x.kind(7), 3);
        e.due("X of 7", x.mill(7, 8), 7);
        e.bad("kind(8)", x.kind(8));
        e.bad("kind(-1)", x.kind(-1));
        e.reads(LAW + mills(7), 7);
        e.fault(LAW + mills(9), (LAW + mills(8)).length(), 3);
    }

    private static void termsInPlaceOfTheOneBefore() {
        Edge e = Edge.ofTerms("A RIDGE that is read stands in place of the one before (none at first):");
        WindTaken x = new WindTaken();
        e.due("count(1), none at first", x.count(1), 0);
        e.due("eight", Texts.read(x, "law 90 50 99;" + mills(8)), 8);
        x.hour(0, 100);
        e.due("one in place of eight", Texts.read(x, "law 50 0 0; mill hooded 5 5 3 4 5 6;"), 1);
        e.due("count(1)", x.count(1), 1);
        e.bad("mill(1, 0)", x.mill(1, 0));
        int[] wanted = {3, 4, 5, 6, 0, 0, 0, 0, 5, 5};
        for (int what = 0; what < wanted.length; what++) {
            e.due("mill(0, " + what + ")", x.mill(0, what), wanted[what]);
        }
        e.due("kind(0)", x.kind(0), 2);
        e.due("left(0, 0, 100, 1)", x.left(0, 0, 100, 1), 0);
        e.due("count(3)", x.count(3), 0);
        e.due("two in place of one", Texts.read(x, LAW + mills(2)), 2);
    }

    private static void termsHour0() {
        Edge e = Edge.ofTerms("hour 0,");
        WindTaken x = Texts.ridgeOf(LAW + ONE);
        e.due("count(2), of the first", x.count(2), 0);
        x.hour(0, 0);
        e.due("count(2), an hour on", x.count(2), 1);
        Texts.read(x, LAW + ONE);
        e.due("count(2), of the next", x.count(2), 0);
    }

    private static void termsAllFaceQuarter0() {
        Edge e = Edge.ofTerms("all face quarter 0");
        WindTaken x = Texts.ridgeOf(LAW + mills(8));
        for (int mill = 0; mill < 8; mill++) {
            e.due("mill(" + mill + ", 6), at first", x.mill(mill, 6), 0);
            x.face(mill, 3);
        }
        Texts.read(x, LAW + mills(8));
        for (int mill = 0; mill < 8; mill++) {
            e.due("mill(" + mill + ", 6), read anew", x.mill(mill, 6), 0);
        }
    }

    private static void termsNoneFurls() {
        Edge e = Edge.ofTerms("none furls;");
        WindTaken x = Texts.ridgeOf(LAW + mills(8));
        e.due("count(4), at first", x.count(4), 0);
        for (int mill = 0; mill < 8; mill++) {
            x.furl(mill, 1);
        }
        e.due("count(4), all", x.count(4), 8);
        Texts.read(x, LAW + mills(8));
        e.due("count(4), read anew", x.count(4), 0);
        e.due("mill(7, 7)", x.mill(7, 7), 0);
    }

    private static void termsImagesAndRowsStay() {
        Edge e = Edge.ofTerms("IMAGES and ROWS stay.");
        WindTaken x = Texts.ridgeOf(LAW + ONE);
        x.hour(0, 0);
        x.image(0);
        Texts.read(x, LAW + mills(2));
        x.image(1);
        Texts.rowOf(x, 3, 9);
        Texts.read(x, LAW + mills(3));
        e.due("restore(0)", x.restore(0), 1);
        e.due("its mills", x.count(1), 1);
        e.due("its hours", x.count(2), 1);
        e.due("restore(1)", x.restore(1), 1);
        e.due("its mills", x.count(1), 2);
        e.due("count(0)", x.count(0), 1);
        e.holds("the ROW's items", Texts.begins(x, 0, 3, 9));
    }

    private static void faultsFirstToken() {
        Edge e = Edge.ofTerms("FAULTS, the first TOKEN that has one (its first byte)");
        e.fault("law 91 51 1000 ?", 4, 2);
        e.fault("law ? 91", 4, 1);
        e.fault("law 30 1000 999", 7, 1);
        e.fault("law   091 ?", 6, 2);
        e.fault(LAW + "mill hoodedd 99 99", 17, 1);
        e.fault(LAW + mills(8) + "mill ? 99", (LAW + mills(8)).length(), 3);
        e.fault(LAW + mills(7) + "mill ? 99" + mills(2), (LAW + mills(7)).length() + 5, 1);
    }

    /** A number where none can stand, 'mill' where none can: 1 ahead of 2 and of 3. */
    private static void faultsLeastOfOneToken() {
        Edge e = Edge.ofTerms(", of one TOKEN the least:");
        String eight = LAW + mills(8);
        e.fault("999", 0, 1);
        e.fault(LAW + "mill 999", 17, 1);
        e.fault(LAW + "mill fixed 1 2 3 4 5 6 999", 35, 1);
        e.fault(eight + "999", eight.length(), 1);
        e.fault(eight + "law", eight.length(), 1);
        String unfinished = eight.substring(0, eight.length() - 1);
        e.fault(unfinished + " mill fixed", eight.length(), 1);
        e.fault(LAW + ONE + "mill ruin 1 1000", 47, 1);
    }

    private static void faultsCannotStand() {
        Edge e = Edge.ofTerms("1 it cannot stand there");
        e.fault("mill", 0, 1);
        e.fault("30", 0, 1);
        e.fault("law fixed", 4, 1);
        e.fault("law 30 20 5 5;", 12, 1);
        e.fault(LAW + "mill ;", 17, 1);
        e.fault(LAW + "mill fixed half", 23, 1);
        e.fault(LAW + ONE + "5", 35, 1);
        e.fault(LAW + ONE + "ruin", 35, 1);
    }

    private static void faultsNoToken() {
        Edge e = Edge.ofTerms(", or is none (");
        for (int sign = 0; sign < 256; sign++) {
            boolean figure = sign >= '0' && sign <= '9';
            boolean letter = sign >= 'a' && sign <= 'z';
            boolean blank = sign == 32 || sign == 10;
            if (!figure && !letter && !blank && sign != ';') {
                e.fault("law " + (char) sign + "0", 4, 1);
            }
        }
    }

    private static void faultsFourFigures() {
        Edge e = Edge.ofTerms("(a run of four figures or more, at its first");
        e.fault("law 0000 0 0;", 4, 1);
        e.fault("law 00000 0 0;", 4, 1);
        e.fault("law  1234567890123456789012345678901234567890", 5, 1);
        e.fault("1234", 0, 1);
        e.fault("law 90 1000 0;", 7, 1);
        e.fault(LAW + "mill ruin 20 20 0001", 28, 1);
        e.fault("law" + "9".repeat(397), 3, 1);
        e.fault(LAW + ONE + " 1234", 36, 1);
        e.fault(LAW + "mill fixed 1 2 3 4 5 999", 36, 1);
    }

    /** A text is cut at each of its bytes; a cut name cannot stand where it begins. */
    private static void faultsTheEnd() {
        Edge e = Edge.ofTerms("; the end: how many bytes there are);");
        String text = LAW + ONE;
        for (int n = 0; n < text.length(); n++) {
            int from = n;
            while (from > 0 && Character.isLetter(text.charAt(from - 1))) {
                from--;
            }
            boolean cut = from < n && Character.isLetter(text.charAt(n));
            e.fault(text.substring(0, n), cut ? from : n, 1);
            e.fault(text.substring(0, n) + " \n ", cut ? from : n + 3, 1);
        }
        e.fault(LAW + blanks(400 - AT_LAW_END), 400, 1);
    }

    private static void faultsNotAsTold() {
        Edge e = Edge.ofTerms("2 a NUMBER that is not as told");
        String[] firstBad = {"law 91", "law 0 51", "law 0 0 100", LAW + "mill ruin 21", LAW + "mill ruin 0 21",
            LAW + "mill ruin 0 0 0", LAW + "mill ruin 0 0 10", LAW + "mill ruin 0 0 1 0",
            LAW + "mill ruin 0 0 1 10", LAW + "mill ruin 0 0 1 1 100"};
        for (String text : firstBad) {
            e.fault(text, text.lastIndexOf(' ') + 1, 2);
            e.fault(text + " ? mill", text.lastIndexOf(' ') + 1, 2);
        }
    }

    private static void faultsOnePlace() {
        Edge e = Edge.ofTerms("(Y of two mills at one place, too)");
        e.fault(LAW + ONE + ONE, 48, 2);
        e.fault(LAW + ONE + "mill ruin 01 002 0", 48, 2);
        e.fault(LAW + ONE + "mill ruin 2 2 1 1 0 0;mill ruin 1 2", 35 + 22 + 12, 2);
        e.fault(LAW + ONE + "mill ruin 2 2 1 1 0 0;mill ruin 2 2", 35 + 22 + 12, 2);
        e.reads(LAW + ONE + "mill ruin 2 1 1 1 0 0;mill ruin 1 1 1 1 0 0;mill ruin 2 2 1 1 0 0;", 4);
        String seven = LAW + mills(7);
        e.fault(seven + "mill ruin 6 0", seven.length() + 12, 2);
        e.fault(seven + "mill ruin 0 0", seven.length() + 12, 2);
    }

    private static void faultsNoRoom() {
        Edge e = Edge.ofTerms("3 a mill more than there is room for (its word).");
        String eight = LAW + mills(8);
        e.reads(eight, 8);
        e.reads(eight + " \n", 8);
        e.fault(eight + "mill", eight.length(), 3);
        e.fault(eight + " \n" + ONE, eight.length() + 2, 3);
        e.fault(eight + "milk", eight.length(), 1);
        e.fault(eight + "mills", eight.length(), 1);
        e.fault(eight + "mil", eight.length(), 1);
    }

    private static void promise6LowestBytes() {
        Edge e = Edge.of(6, "The lowest n bytes of w (1 to 8), the highest of them first, come behind the tape");
        String text = LAW + ONE;
        for (int n = 1; n <= 8; n++) {
            WindTaken x = new WindTaken();
            for (int from = 0; from < text.length(); from += n) {
                int to = Math.min(from + n, text.length());
                int bits = 8 * (to - from);
                long higher = bits == 64 ? 0 : 0x5a5a5a5a5a5a5a5aL << bits;
                x.feed(higher | Texts.word(text, from, to), to - from);
            }
            e.due("ridge(), fed by " + n, x.ridge(), 1);
        }
        WindTaken x = new WindTaken();
        x.feed(0x6c61772020202020L, 8);
        x.feed(0xff20202020202020L, 8);
        e.due("a byte 255, the highest of eight", x.ridge(), -1000108);
        x.feed(0x6c617720202020ffL, 8);
        e.due("a byte 255, the lowest of eight", x.ridge(), -1000107);
    }

    private static void promise6HowMany() {
        Edge e = Edge.of(6, ": how many it has.");
        WindTaken x = new WindTaken();
        int there = 0;
        for (int n = 1; n <= 8; n++) {
            there += n;
            e.due("feed(0, " + n + ")", x.feed(0L, n), there);
            e.due("count(5)", x.count(5), there);
        }
    }

    private static void promise6Bad() {
        Edge e = Edge.of(6, "BAD: n;");
        WindTaken x = new WindTaken();
        e.badFor("feed(0, #)", new int[] {0, 9, -1, Integer.MIN_VALUE, Integer.MAX_VALUE}, n -> x.feed(0L, n));
        e.due("none came", x.count(5), 0);
        Texts.feed(x, blanks(400));
        e.bad("feed(0, 9), ahead of FULL", x.feed(0L, 9));
        e.bad("feed(0, 0), ahead of FULL", x.feed(0L, 0));
    }

    private static void promise6Full() {
        Edge e = Edge.of(6, "FULL: none comes.");
        for (int n = 1; n <= 8; n++) {
            WindTaken x = new WindTaken();
            Texts.feed(x, LAW + blanks(400 - AT_LAW_END - n + 1));
            e.full("feed(-1, " + n + "), room for one less", x.feed(-1L, n));
            e.due("count(5)", x.count(5), 401 - n);
            e.due("ridge(): no byte of them came", x.ridge(), -1000100 - 401 + n);
        }
    }

    private static void promise7HowManyMills() {
        Edge e = Edge.of(7, "is read: how many MILLS there are.");
        for (int n = 1; n <= 8; n++) {
            WindTaken x = new WindTaken();
            e.due("ridge(), of " + n, Texts.read(x, LAW + mills(n)), n);
            e.due("count(1)", x.count(1), n);
        }
    }

    private static void promise7TapeIsEmpty() {
        Edge e = Edge.of(7, "The tape, empty then,");
        WindTaken x = new WindTaken();
        Texts.read(x, LAW + ONE);
        e.due("count(5), a RIDGE was read", x.count(5), 0);
        e.due("ridge(), nothing is on it", x.ridge(), -1000100);
        Texts.read(x, LAW + "?");
        e.due("count(5), a FAULT was told", x.count(5), 0);
        e.due("feed(0, 1)", x.feed(0L, 1), 1);
        x.ridge();
        Texts.feed(x, "law 30 20 555555");
        x.ridge();
        e.due("nothing of a longer text before", Texts.read(x, "law 30 20 5"), -1000111);
    }

    private static void promise7PlaceOfAFault() {
        Edge e = Edge.of(7, "-1000100 less the place of a FAULT:");
        WindTaken x = new WindTaken();
        e.due("place 0", Texts.read(x, "?"), -1000100);
        e.due("place 1", Texts.read(x, " ?"), -1000101);
        e.due("place 399", Texts.read(x, blanks(399) + "?"), -1000499);
        e.due("place 400, the end", Texts.read(x, blanks(400)), -1000500);
    }

    private static void promise7AllStays() {
        Edge e = Edge.of(7, "all but the tape, and what fault() tells, stays.");
        WindTaken x = Texts.ridgeOf("law 50 0 3; mill fixed 5 5 1 1 7 99; mill half 5 4 9 9 8 99;");
        x.furl(0, 1);
        x.face(1, 2);
        x.build(0);
        x.hour(1, 100);
        x.ask(0, 0);
        x.image(0);
        x.drop(3);
        int[] before = Texts.seen(x);
        before[before.length - 1] = 2;
        String[] faulty = {"law 91", "law 90 50 100", LAW + "mill ruin 9 9 9 9 99 "
            + "999", LAW + mills(3) + "mill ruin 0 0",
            "law 9 9 9; mill water 1 1 1 1 1 1; mill ruin 2 2 2 2 100"};
        for (String text : faulty) {
            Texts.read(x, text);
            Texts.read(x, "law 91");
            e.dueAll("behind '" + text + "'", Texts.seen(x), before);
        }
        e.due("TAKE stays", x.left(0, 0, 100, 0), 50);
        e.due("status() stays", x.status(), 1);
        e.due("the image stays", x.restore(0), 1);
        e.dueAll("as it was kept", Texts.seen(x), before);
    }

    private static void promise8Latest() {
        Edge e = Edge.of(8, "The number of the latest FAULT;");
        WindTaken x = new WindTaken();
        Texts.read(x, "law 91");
        e.due("2", x.fault(), 2);
        Texts.read(x, LAW + mills(8) + "mill");
        e.due("3", x.fault(), 3);
        Texts.read(x, "?");
        e.due("1", x.fault(), 1);
        Texts.read(x, "law 91");
        Texts.read(x, LAW + ONE);
        e.due("2: a RIDGE without one has none later", x.fault(), 2);
    }

    private static void promise8Before() {
        Edge e = Edge.of(8, "; 0 before one.");
        WindTaken x = new WindTaken();
        e.due("of a new one", x.fault(), 0);
        Texts.read(x, LAW + ONE);
        e.due("of a RIDGE without", x.fault(), 0);
        Texts.feed(x, "?");
        e.due("of what is not read yet", x.fault(), 0);
        x.ridge();
        e.due("of what is read", x.fault(), 1);
    }

    private static String blanks(int n) {
        return " ".repeat(n);
    }

    private static String mills(int n) {
        StringBuilder text = new StringBuilder();
        for (int i = 0; i < n; i++) {
            text.append("mill half ").append(i).append(" 0 1 1 1 1;");
        }
        return text.toString();
    }
}
