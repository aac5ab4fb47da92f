/** The edges of part 2 of the document, DAYS and what is done on them, and of promises 6 to 15, a sentence a test. */
public final class DayEdgeTest {
    private static final int BAD = GreyByFriday.BAD;
    private static final int NO = GreyByFriday.NO;
    private static final int FULL = GreyByFriday.FULL;
    private static final Check check = new Check("days");

    public static void main(String[] args) {
        atFirstItIsMonday();
        aChildPaysOneLessIfItCostsMoreThanOne();
        aChildPaysLessOfTheLowestSortThatItCosts();
        aPainterHasJustOneTooFew();
        aPainterHasOfTheOthersEnough();
        aPainterWouldHaveTwo();
        aPainterGivesOfWhatHeHasMostLeft();
        aPainterWithEnoughGivesNoMore();
        hueIsTheSortsAsBits();
        deedsComeAheadOfTheSea();
        whoCanNotDoesNot();
        theSeaTakesABlueOneIfHeHasAny();
        theWeekEndsWithDay6();
        theSeaComesAheadOfTheRation();
        whatIsLeftIsGoneButForASaver();
        aSaverHas99AtMost();
        oneTo30DaysGoBy();
        actWithJustEnough();
        lendAllThatOneHas();
        lendUpTo99();
        lendIsForGood();
        sellAllThatOneHas();
        sell99();
        levyIsTakenOneByOne();
        levyTillNobodyHasAny();
        levyOf99();
        undoOfEach();
        theLast8CanBeUndone();
        theNinthIsPastUndoing();
        undoneAndDoneAgainPastTheEnd();
        whatIsRefusedOrAskedCanNotBeUndone();
        manyDaysAreUndoneAtOnce();
        theLastOf512Calls();
        check.end();
    }

    private static void due(String call, long got, long want) {
        check.due(call, got, want);
    }

    private static void has(String call, GreyByFriday x, int i, String want) {
        check.due(call, Check.thimbles(x, i), want);
    }

    private static void pass(GreyByFriday x, int weeks) {
        for (int week = 0; week < weeks; week++) {
            x.pass(7);
        }
    }

    private static void atFirstItIsMonday() {
        GreyByFriday x = Check.laid("p0,1,2,3;p4,0,9,0;d1,0,0,1;");
        due("Monday", x.count(2), 0);
        due("day 0", x.count(3), 0);
        has("his ration", x, 0, "1,2,3");
        has("another's ration", x, 1, "0,9,0");
    }

    private static void aChildPaysOneLessIfItCostsMoreThanOne() {
        GreyByFriday x = Check.laid("p3,9,9,9;p3,0,0,0;p3,3,4,4;p3,3,4,3;d1,0,0,1;d0,1,0,1;d0,0,1,1;d2,0,0,1;d0,0,2,1;d4,4,4,9;");
        int[] cost = {1, 1, 1, 1, 1, 11};
        for (int k = 0; k < 6; k++) {
            due("a child with nothing, " + k, x.can(1, k), 0);
            due("a child pays for " + k, x.act(0, k), cost[k]);
        }
        has("what is left", x, 0, "4,4,3");
        due("worth as for others", x.person(0, 6), 14);
        due("just enough", x.act(2, 5), 11);
        has("nothing is left", x, 2, "0,0,0");
        due("one too few", x.can(3, 5), 0);
        due("one too few", x.act(3, 5), NO);
    }

    private static void aChildPaysLessOfTheLowestSortThatItCosts() {
        GreyByFriday x = Check.laid("p3,9,9,9;p3,9,0,1;d1,1,1,1;d0,1,1,1;d0,2,1,1;d1,0,1,1;d0,0,3,1;d1,1,0,1;");
        String[] left = {"9,8,8", "9,8,7", "9,7,6", "9,7,5", "9,7,3", "9,6,3"};
        for (int k = 0; k < 6; k++) {
            x.act(0, k);
            has("behind " + k, x, 0, left[k]);
        }
        due("the yellow one is given him", x.can(1, 1), 1);
        due("of two yellow ones but one", x.can(1, 2), 0);
        due("the red one is given him, not the yellow one", x.can(1, 0), 0);
    }

    private static void aPainterHasJustOneTooFew() {
        for (int sort = 0; sort < 3; sort++) {
            String cost = sort == 0 ? "2,0,0" : sort == 1 ? "0,2,0" : "0,0,2";
            String one = sort == 0 ? "1,0,2" : sort == 1 ? "2,1,0" : "0,2,1";
            String none = sort == 0 ? "0,9,9" : sort == 1 ? "9,0,9" : "9,9,0";
            GreyByFriday x = Check.laid("p4," + one + ";p4," + none + ";p0," + one + ";p1," + one + ";p2," + one + ";p3,"
                    + none + ";d" + cost + ",7;");
            due("one too few", x.can(0, 0), 1);
            due("two too few", x.can(1, 0), 0);
            due("two too few", x.act(1, 0), NO);
            for (int i = 2; i < 6; i++) {
                due("no painter", x.can(i, 0), 0);
            }
            due("three for two", x.act(0, 0), 3);
            has("all given", x, 0, "0,0,0");
            due("worth", x.person(0, 6), 7);
        }
    }

    private static void aPainterHasOfTheOthersEnough() {
        GreyByFriday x = Check.laid("p4,0,0,9;p4,0,1,9;p4,1,0,9;p4,0,0,0;d1,1,0,1;d1,1,4,1;");
        due("one too few of two sorts", x.can(0, 0), 0);
        due("of one sort", x.can(1, 0), 1);
        due("of another sort", x.can(2, 0), 1);
        due("of two sorts, the third enough", x.can(0, 1), 0);
        due("nothing at all", x.can(3, 0), 0);
    }

    private static void aPainterWouldHaveTwo() {
        GreyByFriday x = Check.laid("p4,0,1,1;p4,0,2,1;p4,0,1,2;p4,0,3,4;p4,0,3,3;p4,0,4,3;d1,0,0,1;d1,2,2,1;");
        due("one of each is not two", x.can(0, 0), 0);
        due("one of each is not two", x.act(0, 0), NO);
        due("two yellow ones", x.act(1, 0), 2);
        has("left", x, 1, "0,0,1");
        due("two blue ones", x.act(2, 0), 2);
        has("left", x, 2, "0,1,0");
        due("two behind the rest of the cost", x.act(3, 1), 6);
        has("left", x, 3, "0,1,0");
        due("one of each behind the rest of the cost", x.act(4, 1), NO);
        due("two behind the rest of the cost", x.act(5, 1), 6);
        has("left", x, 5, "0,0,1");
    }

    private static void aPainterGivesOfWhatHeHasMostLeft() {
        GreyByFriday x = Check.laid("p4,0,5,5;p4,0,5,6;p4,0,9,6;p4,5,0,5;p4,5,5,0;p4,3,4,0;d1,0,0,1;d1,4,0,1;d0,1,0,1;d0,0,1,1;d2,0,1,1;");
        x.act(0, 0);
        has("of several the lowest", x, 0, "0,3,5");
        x.act(1, 0);
        has("the most", x, 1, "0,5,4");
        x.act(2, 1);
        has("behind the cost", x, 2, "0,5,4");
        x.act(3, 2);
        has("of red and blue the lowest", x, 3, "3,0,5");
        x.act(4, 3);
        has("of red and yellow the lowest", x, 4, "3,5,0");
        x.act(5, 4);
        has("red is no more the most behind its cost", x, 5, "1,2,0");
    }

    private static void aPainterWithEnoughGivesNoMore() {
        GreyByFriday x = Check.laid("p4,2,9,9;d2,0,0,1;");
        due("enough", x.act(0, 0), 2);
        has("left", x, 0, "0,9,9");
        due("two too few then", x.act(0, 0), NO);
    }

    private static void hueIsTheSortsAsBits() {
        for (int hue = 0; hue < 8; hue++) {
            GreyByFriday x = Check.laid("p0," + (hue & 1) + "," + (hue >> 1 & 1) * 9 + "," + (hue >> 2) + ";");
            due("hue", x.person(0, 4), hue);
            due("grey ones", x.count(5), hue == 0 ? 1 : 0);
        }
    }

    private static void deedsComeAheadOfTheSea() {
        GreyByFriday x = Check.laid("p2,0,0,1;p2,0,0,2;d0,0,1,5;h0,0,0;h1,0,0;h1,1,0;");
        x.pass(1);
        due("his only blue one is spent", x.person(0, 6), 5);
        has("nothing is left to lose", x, 0, "0,0,0");
        has("one spent, one lost", x, 1, "0,0,0");
        x.pass(1);
        due("too late", x.person(1, 6), 5);
    }

    private static void whoCanNotDoesNot() {
        GreyByFriday x = Check.laid("p0,1,0,0;p0,2,0,0;d2,0,0,9;h0,0,0;h1,0,0;h1,1,0;");
        due("Tuesday", x.pass(1), 1);
        has("one too few", x, 0, "1,0,0");
        due("not done", x.person(0, 6), 0);
        has("just enough", x, 1, "0,0,0");
        x.pass(1);
        due("done once", x.person(1, 6), 9);
    }

    private static void theSeaTakesABlueOneIfHeHasAny() {
        GreyByFriday x = Check.laid("p2,9,9,2;p0,9,9,2;p2,9,9,0;");
        String[] left = {"9,9,1", "9,9,0", "9,9,0"};
        for (String want : left) {
            x.pass(1);
            has("seaside", x, 0, want);
            has("not by the sea", x, 1, "9,9,2");
            has("none to lose", x, 2, "9,9,0");
        }
    }

    private static void theWeekEndsWithDay6() {
        GreyByFriday x = Check.laid("p0,5,0,0;d1,0,0,1;h0,6,0;h0,0,0;");
        due("pass to Sunday", x.pass(6), 6);
        has("nothing anew by Sunday", x, 0, "4,0,0");
        due("pass to Monday", x.pass(1), 0);
        due("the weekday", x.count(2), 0);
        due("the days go on", x.count(3), 7);
        has("anew", x, 0, "5,0,0");
        due("Sunday's deed was done", x.person(0, 6), 2);
        due("and on to Tuesday", x.pass(1), 1);
        due("Monday's deed again", x.person(0, 6), 3);
        due("across two Sundays", x.pass(13), 0);
        due("21 days", x.count(3), 21);
    }

    private static void theSeaComesAheadOfTheRation() {
        GreyByFriday x = Check.laid("p2,0,0,3;");
        x.pass(7);
        has("the whole ration on Monday", x, 0, "0,0,3");
        x.pass(1);
        has("one fewer on Tuesday", x, 0, "0,0,2");
    }

    private static void whatIsLeftIsGoneButForASaver() {
        for (int kind = 0; kind <= 4; kind++) {
            GreyByFriday x = Check.laid("p" + kind + ",2,3,0;p0,9,9,0;");
            x.lend(1, 0, 0, 4);
            has("lent", x, 0, "6,3,0");
            x.pass(7);
            has("kind " + kind, x, 0, kind == 1 ? "8,6,0" : "2,3,0");
            has("who lent has his ration", x, 1, "9,9,0");
        }
    }

    private static void aSaverHas99AtMost() {
        GreyByFriday x = Check.laid("p1,9,8,0;");
        pass(x, 10);
        has("just 99 red ones", x, 0, "99,88,0");
        pass(x, 1);
        has("no more of them", x, 0, "99,96,0");
        pass(x, 1);
        has("96 and 8 are 99", x, 0, "99,99,0");
        x.sell(0, 0, 9);
        x.sell(0, 1, 9);
        pass(x, 1);
        has("90 and 9 are 99, 90 and 8 are 98", x, 0, "99,98,0");
        due("behind is as pass", x.behind(7, 0, 1), 99);
    }

    private static void oneTo30DaysGoBy() {
        GreyByFriday x = Check.laid("p0,1,1,1;");
        due("30 days", x.pass(30), 2);
        due("30 days", x.count(3), 30);
        due("one day", x.pass(1), 3);
        due("no days", x.pass(0), BAD);
        due("31 days", x.pass(31), BAD);
        due("days back", x.pass(-1), BAD);
        due("31 in all", x.count(3), 31);
        due("29 days", Check.laid("p0,1,1,1;").pass(29), 1);
    }

    private static void actWithJustEnough() {
        GreyByFriday x = Check.laid("p0,4,4,4;p0,4,4,3;p0,4,3,4;p0,3,4,4;d4,4,4,0;");
        due("just enough", x.act(0, 0), 12);
        has("left", x, 0, "0,0,0");
        due("not again", x.act(0, 0), NO);
        for (int i = 1; i < 4; i++) {
            due("one too few", x.act(i, 0), NO);
        }
        due("worth nothing", x.person(0, 6), 0);
        due("can be undone", x.count(7), 1);
    }

    private static void lendAllThatOneHas() {
        for (int sort = 0; sort < 3; sort++) {
            GreyByFriday x = Check.laid("p0,3,4,5;p0,0,0,0;");
            int has = 3 + sort;
            due("one too many", x.lend(0, 1, sort, has + 1), NO);
            due("all", x.lend(0, 1, sort, has), has);
            due("none is left", x.lend(0, 1, sort, 1), NO);
            due("back", x.lend(1, 0, sort, 1), 1);
            due("12 still", x.count(4), 12);
        }
    }

    private static void lendUpTo99() {
        GreyByFriday x = Check.laid("p1,9,0,0;p1,8,0,0;p0,0,0,0;");
        pass(x, 12);
        due("99 at once", x.lend(0, 2, 0, 99), 99);
        due("a hundredth", x.lend(1, 2, 0, 1), FULL);
        due("100 at once", x.lend(2, 1, 0, 100), BAD);
        due("198", x.lend(2, 1, 0, 99), FULL);
        due("not so many, ahead of above 99", x.lend(0, 1, 0, 1), NO);
        x.sell(2, 0, 1);
        due("up to just 99", x.lend(1, 2, 0, 1), 99);
        due("one left below", x.lend(2, 1, 0, 2), FULL);
        due("up to just 99", x.lend(2, 1, 0, 1), 99);
    }

    private static void lendIsForGood() {
        GreyByFriday x = Check.laid("p1,4,0,0;p1,0,0,0;p0,0,0,0;");
        x.lend(0, 1, 0, 2);
        x.lend(0, 2, 0, 1);
        x.pass(7);
        has("who lent", x, 0, "5,0,0");
        has("a saver keeps what was lent him", x, 1, "2,0,0");
        has("it is gone with another one's week", x, 2, "0,0,0");
    }

    private static void sellAllThatOneHas() {
        for (int sort = 0; sort < 3; sort++) {
            GreyByFriday x = Check.laid("p0,3,4,5;p0,9,9,9;c7;");
            int has = 3 + sort;
            due("one too many", x.sell(0, sort, has + 1), NO);
            due("all but one", x.sell(0, sort, has - 1), 7 * (has - 1));
            due("the last one", x.sell(0, sort, 1), 7 * has);
            due("none is left", x.sell(0, sort, 1), NO);
            due("the coins are his", x.person(0, 5), 7 * has);
            due("and no other one's", x.person(1, 5), 0);
            due("they are gone", x.count(4), 39 - has);
        }
    }

    private static void sell99() {
        GreyByFriday x = Check.laid("p1,9,0,0;c9;");
        pass(x, 10);
        due("99 at once", x.sell(0, 0, 99), 891);
        has("none is left", x, 0, "0,0,0");
        pass(x, 1);
        due("coins are kept", x.sell(0, 0, 9), 972);
        due("grey", x.count(5), 1);
    }

    private static void levyIsTakenOneByOne() {
        GreyByFriday x = Check.laid("p0,2,0,0;p0,4,0,0;p0,4,0,0;p0,1,9,0;");
        String[] left = {"2341", "2331", "2231", "2221", "1221", "1121", "1111", "0111", "0011", "0001", "0000"};
        for (String want : left) {
            due("one", x.levy(0, 1), 1);
            check.due("left", "" + x.person(0, 1) + x.person(1, 1) + x.person(2, 1) + x.person(3, 1), want);
        }
        due("nobody has any", x.levy(0, 1), 0);
        GreyByFriday y = Check.laid("p0,2,0,0;p0,4,0,0;p0,4,0,0;p0,1,9,0;");
        due("five at once", y.levy(0, 5), 5);
        check.due("as one by one", "" + y.person(0, 1) + y.person(1, 1) + y.person(2, 1) + y.person(3, 1), left[4]);
        due("of the others none", y.person(3, 2), 9);
    }

    private static void levyTillNobodyHasAny() {
        for (int sort = 0; sort < 3; sort++) {
            GreyByFriday x = Check.laid("p0,3,4,5;p0,1,1,1;");
            int all = 4 + sort;
            due("all but one", x.levy(sort, all - 1), all - 1);
            due("just the last one", x.levy(sort, 1), 1);
            x.undo();
            x.undo();
            due("just all", x.levy(sort, all), all);
            x.undo();
            due("one too many", x.levy(sort, all + 1), all);
            due("none are left", x.levy(sort, 99), 0);
            due("of the other sorts all", x.count(4), 15 - all);
            due("nobody is paid", x.person(0, 5), 0);
        }
    }

    private static void levyOf99() {
        GreyByFriday x = Check.laid("p1,9,0,0;p1,9,0,0;");
        pass(x, 11);
        due("99 of 198", x.levy(0, 99), 99);
        has("the lower one gives more", x, 0, "49,0,0");
        has("the other one", x, 1, "50,0,0");
        due("the rest", x.levy(0, 99), 99);
        due("none", x.levy(0, 99), 0);
    }

    private static void undoOfEach() {
        for (int way = 0; way < 6; way++) {
            GreyByFriday x = Check.laid("p1,5,5,5;p2,1,1,9;d1,1,1,4;h0,0,0;h1,6,0;c3;");
            String was = Check.state(x);
            due("can be done", doSome(x, way) >= 0 ? 1 : 0, 1);
            due("one can be undone", x.count(7), 1);
            due("undo", x.undo(), 0);
            check.due("as it was", Check.state(x), was);
            due("no more", x.undo(), NO);
            check.due("as it was", Check.state(x), was);
        }
    }

    private static int doSome(GreyByFriday x, int way) {
        switch (way) {
            case 0: return x.pass(1);
            case 1: return x.pass(30);
            case 2: return x.act(0, 0);
            case 3: return x.lend(0, 1, 0, 1);
            case 4: return x.sell(0, 1, 1);
            default: return x.levy(2, 2);
        }
    }

    private static void theLast8CanBeUndone() {
        GreyByFriday x = Check.laid("p0,9,0,0;");
        for (int n = 1; n <= 8; n++) {
            x.sell(0, 0, 1);
            due("so many", x.count(7), n);
        }
        for (int n = 7; n >= 0; n--) {
            due("undo", x.undo(), n);
            due("so many red ones", x.person(0, 1), 9 - n);
            due("so many coins", x.person(0, 5), n);
            due("so many more", x.count(7), n);
        }
        due("no more", x.undo(), NO);
        due("all are back", x.person(0, 1), 9);
    }

    private static void theNinthIsPastUndoing() {
        GreyByFriday x = Check.laid("p0,9,0,0;");
        for (int n = 0; n < 9; n++) {
            x.sell(0, 0, 1);
        }
        due("eight", x.count(7), 8);
        for (int n = 7; n >= 0; n--) {
            due("undo", x.undo(), n);
        }
        due("not the first", x.undo(), NO);
        due("which is gone for good", x.person(0, 1), 8);
        due("its coin stays", x.person(0, 5), 1);
    }

    private static void undoneAndDoneAgainPastTheEnd() {
        GreyByFriday x = Check.laid("p1,9,9,9;");
        int done = 0;
        for (int round = 0; round < 4; round++) {
            for (int n = 0; n < 5; n++) {
                x.sell(0, round % 3, 1);
                done++;
            }
            x.undo();
            x.undo();
            done -= 2;
            due("coins", x.person(0, 5), done);
        }
        due("coins", x.person(0, 5), 12);
        due("six can be undone", x.count(7), 6);
        for (int n = 5; n >= 0; n--) {
            due("undo", x.undo(), n);
            due("coins", x.person(0, 5), 6 + n);
        }
        due("no more", x.undo(), NO);
        due("coins", x.person(0, 5), 6);
    }

    private static void whatIsRefusedOrAskedCanNotBeUndone() {
        GreyByFriday x = Check.laid("p0,1,0,0;p0,0,0,0;d0,1,0,1;");
        x.pass(0);
        x.act(0, 0);
        x.act(0, 1);
        x.lend(0, 1, 0, 2);
        x.lend(0, 0, 0, 1);
        x.sell(0, 1, 1);
        x.levy(3, 1);
        x.can(0, 0);
        x.behind(5, 0, 0);
        x.year(5, 5, 0);
        x.seen(0, 1, 1);
        x.keep();
        x.forget();
        due("nothing", x.count(7), 0);
        due("nothing", x.undo(), NO);
    }

    private static void manyDaysAreUndoneAtOnce() {
        GreyByFriday x = Check.laid("p1,1,0,0;");
        x.pass(3);
        x.pass(30);
        due("two", x.count(7), 2);
        due("the later ones", x.undo(), 1);
        due("three days", x.count(3), 3);
        due("the earlier ones", x.undo(), 0);
        due("no days", x.count(3), 0);
    }

    private static void theLastOf512Calls() {
        GreyByFriday x = new GreyByFriday();
        for (int call = 1; call < 512; call++) {
            due("pass, call " + call, x.pass(30), call * 30 % 7);
        }
        due("days, call 512", x.count(3), 511 * 30);
        x = new GreyByFriday();
        for (int call = 1; call < 512; call++) {
            due("write, call " + call, x.write('c'), call <= 200 ? call : FULL);
        }
        due("letters, call 512", x.count(9), 200);
    }
}
