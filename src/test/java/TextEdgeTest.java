/** The edges of part 1 of the document, THE TEXT, and of promises 1 to 5 and 8, a sentence a test. */
public final class TextEdgeTest {
    private static final int BAD = GreyByFriday.BAD;
    private static final int NO = GreyByFriday.NO;
    private static final int FULL = GreyByFriday.FULL;
    private static final int NONE = GreyByFriday.NONE;
    private static final String PERSON = "p0,1,1,1;";
    private static final String DEED = "d1,1,1,1;";
    // Ahead of an h item, so that 0 and 1 are PERSONS and DEEDS.
    private static final String TWO_AND_TWO = PERSON + PERSON + DEED + DEED;
    private static final Check check = new Check("text");

    public static void main(String[] args) {
        aNewObject();
        aLetterIs32To126();
        twoHundredLettersAtMost();
        anItemThatTheTwoHundredthLetterEnds();
        anItemThatTheEndOfTheTextCuts();
        wipeOfAnEmptyAndOfAFullText();
        anItemBeginsWithOneOfFourLetters();
        eachItemHasItsManyNumbers();
        aNumberIsOneOrTwoFigures();
        numbersArePartedByACommaAndEndedByASemicolon();
        itemsStandOneBehindTheOther();
        kindIs0To4();
        aRationIs0To9();
        sixPersonsAtMost();
        aCostIs0To4();
        costsAreTogether1AtLeast();
        aWorthIs0To9();
        sixDeedsAtMost();
        aDayIs0To6();
        personsAreToldAhead();
        deedsAreToldAhead();
        theLastOneOfEachTwo();
        aPriceIs0To9();
        aPriceIs1Without();
        theFirstItemThatIsNotSo();
        faultLeavesWhatIsLaid();
        laidIsOfAPersonAtLeast();
        laidIsWithoutFault();
        layBeginsAnew();
        aSmallerStreetBehindALargerOne();
        layLeavesTheText();
        layThatIsRefusedChangesNothing();
        check.end();
    }

    private static void due(String call, long got, long want) {
        check.due(call, got, want);
    }

    private static int faultOf(String text) {
        GreyByFriday x = new GreyByFriday();
        Check.written(x, text);
        return x.fault();
    }

    /** The numbers from 0 to 99 at a place of an item: right up to the last one that is told. */
    private static void numbersUpTo(int most, String ahead, String left, String right) {
        for (int n = 0; n <= 99; n++) {
            String item = left + n + right;
            due(ahead + item, faultOf(ahead + item), n <= most ? NONE : ahead.length());
        }
        due(left + "0" + most + right, faultOf(ahead + left + "0" + most + right), NONE);
    }

    private static void aNewObject() {
        GreyByFriday x = new GreyByFriday();
        due("new: the text is empty", x.count(9), 0);
        due("new: no fault", x.fault(), NONE);
        due("new: nothing to lay", x.lay(), NO);
        due("new: nothing to undo", x.undo(), NO);
        due("new: nothing kept", x.back(), NO);
        due("new: nothing seen", x.forget(), 0);
        due("new: Monday", x.count(2), 0);
        due("new: each has his ration", x.count(4), 9 + 7 + 10 + 6);
        due("new: a thimble brings 2", x.sell(3, 1, 5), 10);
    }

    private static void aLetterIs32To126() {
        GreyByFriday x = new GreyByFriday();
        for (int letter = 32; letter <= 126; letter++) {
            due("write " + letter, x.write(letter), letter - 31);
        }
        for (int letter : new int[] {31, 127, 0, -1, -32, 10, 9, 'p' + 256, 'p' + 65536, 'p' - 256,
            Integer.MIN_VALUE, Integer.MAX_VALUE}) {
            due("write " + letter, x.write(letter), BAD);
            due("write " + letter + " leaves the text", x.count(9), 95);
        }
    }

    private static void twoHundredLettersAtMost() {
        GreyByFriday x = new GreyByFriday();
        String text = PERSON + DEED + "h0,0,0;".repeat(25) + "h0,6,0;";
        for (int n = 1; n <= 200; n++) {
            due("letter " + n, x.write(text.charAt(n - 1)), n);
        }
        due("letter 201", x.write(';'), FULL);
        due("letter 201 again", x.write('x'), FULL);
        due("letter 201 that is none", x.write(31), BAD);
        due("200 letters", x.count(9), 200);
        due("200 letters have no fault", x.fault(), NONE);
        due("200 letters are laid", x.lay(), 1);
        due("the last item counts", x.told(0, 6), 0);
        due("full still", x.write('c'), FULL);
        due("wipe of 200", x.wipe(), 200);
        due("room again", x.write('c'), 1);
    }

    private static void anItemThatTheTwoHundredthLetterEnds() {
        GreyByFriday x = new GreyByFriday();
        Check.written(x, "c1;".repeat(65) + "c01;");
        due("199 letters", x.count(9), 199);
        due("199 letters", x.fault(), NONE);
        due("an item's first letter alone", x.write('c'), 200);
        due("its place", x.fault(), 199);
        due("no room to end it", x.write('1'), FULL);
        due("nobody can be laid", x.lay(), NO);
        Check.written(x, "c1;".repeat(66) + "c1");
        due("an item without its end", x.fault(), 198);
        due("no room for its end", x.write(';'), FULL);
        due("still without its end", x.fault(), 198);
        x.wipe();
        for (int n = 0; n < 200; n++) {
            x.write('p');
        }
        due("200 of one letter", x.fault(), 0);
    }

    private static void anItemThatTheEndOfTheTextCuts() {
        for (String item : new String[] {"p0,1,1,1;", "d1,1,1,1;", "h0,0,0;", "c1;", "p00,01,01,01;"}) {
            for (int length = 0; length <= item.length(); length++) {
                String text = TWO_AND_TWO + item.substring(0, length);
                boolean right = length == 0 || length == item.length();
                due("fault of " + text, faultOf(text), right ? NONE : TWO_AND_TWO.length());
            }
        }
    }

    private static void wipeOfAnEmptyAndOfAFullText() {
        GreyByFriday x = new GreyByFriday();
        due("wipe of the first text", x.wipe(), 0);
        x.write('c');
        due("wipe of one", x.wipe(), 1);
        due("wipe of none", x.wipe(), 0);
        due("the street stays", x.count(0), 4);
        Check.written(x, "c".repeat(200));
        due("wipe of all", x.wipe(), 200);
        due("empty", x.count(9), 0);
        due("an empty text has no fault", x.fault(), NONE);
        Check.written(x, "c1;");
        due("nothing of what was is left behind it", x.fault(), NONE);
    }

    private static void anItemBeginsWithOneOfFourLetters() {
        for (int letter = 32; letter <= 126; letter++) {
            for (String rest : new String[] {"1,1,1,1;", "1,1,1;", "1;", ";", ""}) {
                String item = (char) letter + rest;
                boolean right = item.equals("p1,1,1,1;") || item.equals("d1,1,1,1;") || item.equals("h1,1,1;")
                        || item.equals("c1;");
                due("fault of " + item, faultOf(TWO_AND_TWO + item), right ? NONE : TWO_AND_TWO.length());
            }
        }
    }

    private static void eachItemHasItsManyNumbers() {
        String letters = "pdhc";
        int[] due = {4, 4, 3, 1};
        for (int letter = 0; letter < 4; letter++) {
            StringBuilder item = new StringBuilder().append(letters.charAt(letter)).append('1');
            for (int numbers = 1; numbers <= 7; numbers++) {
                due("fault of " + item, faultOf(TWO_AND_TWO + item + ";"),
                        numbers == due[letter] ? NONE : TWO_AND_TWO.length());
                item.append(",1");
            }
        }
    }

    private static void aNumberIsOneOrTwoFigures() {
        String[] items = {"p#,1,1,1;", "p1,#,1,1;", "p1,1,#,1;", "p1,1,1,#;", "d#,1,1,1;", "d1,#,1,1;", "d1,1,#,1;",
            "d1,1,1,#;", "h#,1,1;", "h1,#,1;", "h1,1,#;", "c#;"};
        for (String item : items) {
            for (String number : new String[] {"1", "01", "0", "00"}) {
                due(item + number, faultOf(TWO_AND_TWO + item.replace("#", number)), NONE);
            }
            for (String number : new String[] {"", "001", "000", "0001", " 1", "1 ", "+1", "-1", "-0", "1.", "a", "1a",
                "/", ":", "0/", "0:", "0x1"}) {
                due(item + number, faultOf(TWO_AND_TWO + item.replace("#", number)), TWO_AND_TWO.length());
            }
        }
    }

    private static void numbersArePartedByACommaAndEndedByASemicolon() {
        for (String item : new String[] {"p1,1,1,1;", "d1,1,1,1;", "h1,1,1;", "c1;"}) {
            for (int place = 2; place < item.length(); place += 2) {
                for (int letter = 32; letter <= 126; letter++) {
                    String other = item.substring(0, place) + (char) letter + item.substring(place + 1);
                    due("fault of " + other, faultOf(TWO_AND_TWO + other),
                            other.equals(item) ? NONE : TWO_AND_TWO.length());
                }
            }
        }
    }

    private static void itemsStandOneBehindTheOther() {
        due("a blank between", faultOf("c1; c1;"), 3);
        due("a blank ahead", faultOf(" c1;"), 0);
        due("a blank behind", faultOf("c1; "), 3);
        due("a second ;", faultOf("c1;;c1;"), 3);
        due("a , between", faultOf("c1;,c1;"), 3);
        due("nothing between", faultOf("c1;c1;"), NONE);
        due("one ; alone", faultOf(";"), 0);
    }

    private static void kindIs0To4() {
        numbersUpTo(4, "", "p", ",1,1,1;");
        for (int kind = 0; kind <= 4; kind++) {
            due("kind", Check.laid("p" + kind + ",1,1,1;").person(0, 0), kind);
        }
    }

    private static void aRationIs0To9() {
        numbersUpTo(9, "", "p0,", ",1,1;");
        numbersUpTo(9, "", "p0,1,", ",1;");
        numbersUpTo(9, "", "p0,1,1,", ";");
        check.due("nothing", Check.thimbles(Check.laid("p0,0,0,0;"), 0), "0,0,0");
        check.due("most", Check.thimbles(Check.laid("p0,9,9,9;"), 0), "9,9,9");
        check.due("two figures", Check.thimbles(Check.laid("p00,09,08,07;"), 0), "9,8,7");
    }

    private static void sixPersonsAtMost() {
        due("six", faultOf(PERSON.repeat(6)), NONE);
        due("seven", faultOf(PERSON.repeat(7)), 54);
        due("seven, a deed between", faultOf(PERSON.repeat(6) + DEED + PERSON), 63);
        due("seven, then a fault", faultOf(PERSON.repeat(7) + "x"), 54);
        GreyByFriday x = new GreyByFriday();
        Check.written(x, PERSON.repeat(7));
        due("seven are not laid", x.lay(), NO);
        Check.written(x, "p0,0,0,1;p1,0,0,2;p2,0,0,3;p3,0,0,4;p4,0,0,5;p0,0,0,6;");
        due("six are laid", x.lay(), 6);
        for (int i = 0; i < 6; i++) {
            due("person " + i, x.person(i, 3), i + 1);
        }
        due("person 6", x.person(6, 3), BAD);
        x = Check.laid(PERSON);
        due("one: person 0", x.person(0, 3), 1);
        due("one: person 1", x.person(1, 3), BAD);
    }

    private static void aCostIs0To4() {
        numbersUpTo(4, "", "d", ",1,0,1;");
        numbersUpTo(4, "", "d1,", ",0,1;");
        numbersUpTo(4, "", "d0,1,", ",1;");
        GreyByFriday x = Check.laid(PERSON + "d4,04,4,09;");
        for (int what = 0; what < 4; what++) {
            due("deed(0, " + what, x.deed(0, what), what < 3 ? 4 : 9);
        }
    }

    private static void costsAreTogether1AtLeast() {
        for (int worth = 0; worth <= 9; worth++) {
            due("for nothing", faultOf("d0,0,0," + worth + ";"), 0);
            due("for nothing, behind another", faultOf(DEED + "d00,00,00," + worth + ";"), 9);
        }
        due("a red one", faultOf("d1,0,0,0;"), NONE);
        due("a yellow one", faultOf("d0,1,0,0;"), NONE);
        due("a blue one", faultOf("d0,0,1,0;"), NONE);
    }

    private static void aWorthIs0To9() {
        numbersUpTo(9, "", "d1,0,0,", ";");
        due("worth 0", Check.laid(PERSON + "d1,0,0,0;").deed(0, 3), 0);
    }

    private static void sixDeedsAtMost() {
        due("six", faultOf(DEED.repeat(6)), NONE);
        due("seven", faultOf(DEED.repeat(7)), 54);
        due("seven, a person between", faultOf(DEED.repeat(6) + PERSON + DEED), 63);
        due("six of both", faultOf((PERSON + DEED).repeat(6) + "h5,6,5;"), NONE);
        due("a seventh deed", faultOf((PERSON + DEED).repeat(6) + "h5,6,5;" + DEED), 115);
        GreyByFriday x = Check.laid(PERSON + "d1,0,0,1;d1,0,0,2;d1,0,0,3;d1,0,0,4;d1,0,0,5;d1,0,0,6;");
        for (int k = 0; k < 6; k++) {
            due("deed " + k, x.deed(k, 3), k + 1);
        }
        due("deed 6", x.deed(6, 3), BAD);
        x = Check.laid(PERSON);
        due("no deeds", x.count(1), 0);
        due("no deed 0", x.deed(0, 0), BAD);
        due("which nobody can", x.can(0, 0), BAD);
    }

    private static void aDayIs0To6() {
        numbersUpTo(6, PERSON + DEED, "h0,", ",0;");
        GreyByFriday x = Check.laid(PERSON + DEED + "h0,0,0;h0,6,0;");
        for (int day = 0; day <= 6; day++) {
            due("told on " + day, x.told(0, day), day == 0 || day == 6 ? 0 : NONE);
        }
    }

    private static void personsAreToldAhead() {
        numbersUpTo(0, PERSON + DEED, "h", ",0,0;");
        numbersUpTo(5, PERSON.repeat(6) + DEED, "h", ",0,0;");
        due("nobody told", faultOf(DEED + "h0,0,0;"), 9);
        due("told behind", faultOf(DEED + "h0,0,0;" + PERSON), 9);
        due("the second told behind", faultOf(PERSON + DEED + "h1,0,0;" + PERSON), 18);
        due("the second told ahead", faultOf(PERSON + DEED + PERSON + "h1,0,0;"), NONE);
    }

    private static void deedsAreToldAhead() {
        numbersUpTo(0, PERSON + DEED, "h0,0,", ";");
        numbersUpTo(5, PERSON + DEED.repeat(6), "h0,0,", ";");
        due("no deed told", faultOf(PERSON + "h0,0,0;"), 9);
        due("told behind", faultOf(PERSON + "h0,0,0;" + DEED), 9);
        due("the second told behind", faultOf(PERSON + DEED + "h0,0,1;" + DEED), 18);
        due("the second told ahead", faultOf(PERSON + DEED + DEED + "h0,0,1;"), NONE);
    }

    private static void theLastOneOfEachTwo() {
        GreyByFriday x = Check.laid(TWO_AND_TWO + "h0,3,0;h1,3,1;h0,4,1;h0,3,1;h1,3,0;h0,5,1;h0,5,1;h0,5,0;");
        due("the last of two", x.told(0, 3), 1);
        due("another one's", x.told(1, 3), 0);
        due("another day's", x.told(0, 4), 1);
        due("the last of three", x.told(0, 5), 0);
        due("none told", x.told(1, 4), NONE);
    }

    private static void aPriceIs0To9() {
        numbersUpTo(9, "", "c", ";");
        due("for nothing", Check.laid(PERSON + "c0;").sell(0, 0, 1), 0);
        due("for nine", Check.laid("c9;" + PERSON).sell(0, 0, 1), 9);
        due("the last one", Check.laid("c9;" + PERSON + "c0;c3;").sell(0, 0, 1), 3);
        due("the last one, for nothing", Check.laid("c9;" + PERSON + "c0;").sell(0, 0, 1), 0);
    }

    private static void aPriceIs1Without() {
        due("without", Check.laid(PERSON).sell(0, 0, 1), 1);
        GreyByFriday x = Check.laid(PERSON + "c9;");
        Check.written(x, PERSON);
        x.lay();
        due("without, behind a street with one", x.sell(0, 0, 1), 1);
    }

    private static void theFirstItemThatIsNotSo() {
        due("no items", faultOf(""), NONE);
        due("the first one", faultOf("p5,1,1,1;" + PERSON), 0);
        due("not the wrong number's place", faultOf(PERSON + "p1,1,1,10;"), 9);
        due("the last one", faultOf(PERSON + DEED + "h0,7,0;"), 18);
        due("of two the first", faultOf("c1;c10;x"), 3);
        due("by number, then by form", faultOf("c1;p5,0,0,0;p"), 3);
        due("by form, then by number", faultOf("c1;c1,c10;"), 3);
        due("what a wrong item would tell is not told", faultOf("p5,1,1,1;" + DEED + "h0,0,0;"), 0);
    }

    private static void faultLeavesWhatIsLaid() {
        for (String text : new String[] {"", PERSON, "p0,1,1,1", "p0,9,9,9;d4,4,4,9;h0,0,0;c9;", "x"}) {
            GreyByFriday x = Whole.busy();
            GreyByFriday y = Whole.busy();
            Check.written(x, text);
            Check.written(y, text);
            int first = x.fault();
            due("fault again", x.fault(), first);
            check.due("fault of " + text + " changes nothing", Whole.of(x), Whole.of(y));
        }
    }

    private static void laidIsOfAPersonAtLeast() {
        for (String text : new String[] {"", "c1;", DEED, DEED.repeat(6) + "c0;"}) {
            GreyByFriday x = new GreyByFriday();
            Check.written(x, text);
            due("no fault", x.fault(), NONE);
            due("but nobody", x.lay(), NO);
            due("as before", x.count(0), 4);
        }
        due("one is enough", Check.laid("p0,0,0,0;").count(0), 1);
    }

    private static void laidIsWithoutFault() {
        for (String text : new String[] {PERSON + "x", PERSON + "p0,1,1,1", PERSON + "h0,0,0;", "p5,0,0,0;" + PERSON,
            PERSON.repeat(7), PERSON + " "}) {
            GreyByFriday x = new GreyByFriday();
            Check.written(x, text);
            due("lay of " + text, x.lay(), NO);
            due("as before", x.count(0), 4);
        }
    }

    private static void layBeginsAnew() {
        GreyByFriday x = Whole.busy();
        Check.written(x, "p2,1,2,3;p3,0,0,0;d0,0,1,4;");
        due("lay", x.lay(), 2);
        check.due("as new", Check.state(x), Check.state(Check.laid("p2,1,2,3;p3,0,0,0;d0,0,1,4;")));
        due("day 0", x.count(3), 0);
        due("no coins", x.person(0, 5) + x.person(1, 5), 0);
        due("worth nothing yet", x.person(0, 6) + x.person(1, 6), 0);
        due("nothing seen", x.forget(), 0);
        due("nothing undone", x.undo(), NO);
        due("nothing kept", x.back(), NO);
        due("no deed of the other street", x.deed(1, 0), BAD);
        due("nothing told by the other street", x.told(0, 2), NONE);
        due("room to keep", x.keep(), 1);
        due("room to keep", x.keep(), 2);
    }

    private static void aSmallerStreetBehindALargerOne() {
        String large = "p1,9,9,9;".repeat(6) + "d1,0,0,9;".repeat(6) + "h5,0,5;h1,0,5;c9;";
        for (String small : new String[] {"p0,0,0,0;", "p0,1,0,0;d0,1,0,0;", "p2,3,0,1;d1,0,0,1;d1,0,1,5;h0,0,1;",
            "p4,2,2,2;p3,1,1,1;d1,1,1,4;h1,0,0;"}) {
            GreyByFriday x = Check.laid(large);
            Whole.comes(x);
            x.pass(30);
            // Twice, for the second time is on what the first one left.
            for (int time = 0; time < 2; time++) {
                Check.written(x, small);
                x.lay();
                GreyByFriday y = Check.laid(small);
                check.due("state of " + small, Check.state(x), Check.state(y));
                check.due("what comes of " + small, Whole.comes(x), Whole.comes(y));
                due("levy of " + small, x.levy(0, 99), y.levy(0, 99));
            }
        }
    }

    private static void layLeavesTheText() {
        GreyByFriday x = Check.laid(PERSON);
        due("as long as it was", x.count(9), 9);
        x.sell(0, 0, 1);
        due("lay again", x.lay(), 1);
        due("all anew", x.person(0, 1), 1);
        due("another letter behind it", x.write('p'), 10);
        due("is a fault", x.fault(), 9);
    }

    private static void layThatIsRefusedChangesNothing() {
        for (String text : new String[] {"", DEED, "p0,9,9,9;p0,1", "p4,9,9,9;d1,0,0,9;h0,0,0;c9;p5,1,1,1;"}) {
            Whole.unchanged(check, "lay of " + text, () -> {
                GreyByFriday x = Whole.busy();
                Check.written(x, text);
                return x;
            }, GreyByFriday::lay, NO);
        }
    }
}
