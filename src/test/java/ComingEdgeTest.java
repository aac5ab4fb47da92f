/** The edges of part 3 of the document, what comes, and of promises 16 to 20, a sentence a test. */
public final class ComingEdgeTest {
    private static final int BAD = GreyByFriday.BAD;
    private static final int NONE = GreyByFriday.NONE;
    private static final String DAILY = "h1,0,0;h1,1,0;h1,2,0;h1,3,0;h1,4,0;h1,5,0;h1,6,0;";
    private static final Check check = new Check("coming");

    public static void main(String[] args) {
        behindNoDays();
        behind60DaysIsAs60DaysThatWentBy();
        behindAcrossTheEndOfDay6();
        behindAtTheSea();
        greyOnTheLastOf60Days();
        greyOnTheFirstDay();
        greyAheadOfTheRation();
        greyOfSeveralTheLowest();
        greyNobody();
        bestWithoutDeeds();
        bestWithNothing();
        bestIsEachFiveTimesAtMost();
        bestIsOfFewestDeeds();
        bestHasDeed0MostOften();
        bestCanHaveLessOfDeed0();
        bestDoesDeed0First();
        bestMayNeedADeedThatIsWorthNothing();
        bestBehindAnotherBest();
        bestOfAChild();
        bestOfAllSixDeedsFiveTimes();
        lendingOfNothing();
        lendingOfJustEnough();
        lendingIsForToday();
        lendingToAChildAndToAPainter();
        lendingOfSeveralSorts();
        lendingAmongSix();
        heapOfNothing();
        heapOfJustAsMany();
        heapOfAllSix();
        heapOf99();
        heapOfSeveralSetsTheLowest();
        check.end();
    }

    private static void due(String call, long got, long want) {
        check.due(call, got, want);
    }

    private static GreyByFriday passed(String text, int days) {
        GreyByFriday x = Check.laid(text);
        x.pass(days);
        return x;
    }

    private static void behindNoDays() {
        GreyByFriday x = Check.laid("p2,1,0,3;d1,0,0,4;h0,0,0;");
        int[] want = {1, 0, 3, 5, 0};
        for (int what = 0; what <= 4; what++) {
            due("behind 0 days " + what, x.behind(0, 0, what), want[what]);
        }
        x.act(0, 0);
        due("what was done ahead is not in them", x.behind(0, 0, 4), 0);
        due("but is gone", x.behind(0, 0, 0), 0);
        due("hue", x.behind(0, 0, 3), 4);
        due("behind -1 days", x.behind(-1, 0, 0), BAD);
    }

    private static void behind60DaysIsAs60DaysThatWentBy() {
        String text = "p1,9,2,1;p2,3,3,9;p3,5,5,5;p4,0,9,9;d1,0,0,3;d0,1,1,5;h0,0,0;h0,6,1;h1,2,1;h2,3,1;h3,4,0;h3,6,0;";
        GreyByFriday x = passed(text, 3);
        GreyByFriday y = passed(text, 3);
        int[] worth = {y.person(0, 6), y.person(1, 6), y.person(2, 6), y.person(3, 6)};
        y.pass(30);
        y.pass(30);
        for (int i = 0; i < 4; i++) {
            for (int what = 0; what < 4; what++) {
                due("behind(60, " + i + ", " + what, x.behind(60, i, what), y.person(i, what + 1));
            }
            due("worth of " + i, x.behind(60, i, 4), y.person(i, 6) - worth[i]);
        }
        due("61 days", x.behind(61, 0, 0), BAD);
        due("no day went by", x.count(3), 3);
    }

    private static void behindAcrossTheEndOfDay6() {
        GreyByFriday x = passed("p0,3,0,0;p1,3,0,0;d1,0,0,2;h0,6,0;h1,0,0;", 6);
        due("on Sunday", x.behind(0, 0, 0), 3);
        due("on Monday", x.behind(1, 0, 0), 3);
        due("Sunday's deed", x.behind(1, 0, 4), 2);
        due("a saver on Monday", x.behind(1, 1, 0), 5);
        due("a saver on Tuesday", x.behind(2, 1, 0), 4);
        due("eight days", x.behind(8, 0, 4), 4);
        due("seven days", x.behind(7, 0, 4), 2);
    }

    private static void behindAtTheSea() {
        GreyByFriday x = Check.laid("p2,0,0,2;");
        int[] left = {2, 1, 0, 0, 0, 0, 0, 2, 1};
        for (int n = 0; n < left.length; n++) {
            due("behind " + n, x.behind(n, 0, 2), left[n]);
            due("hue behind " + n, x.behind(n, 0, 3), left[n] > 0 ? 4 : 0);
        }
    }

    private static void greyOnTheLastOf60Days() {
        GreyByFriday x = Check.laid("p1,9,9,0;p1,0,0,0;d1,0,0,1;" + DAILY);
        x.pass(28);
        x.pass(28);
        for (int days = 59; days <= 61; days++) {
            x.lend(0, 1, 0, days);
            due("grey on day " + days, x.grey(1), days <= 60 ? days : NONE);
            due("who is grey on day " + days, x.grey(0), days <= 60 ? 1 : NONE);
            x.undo();
        }
    }

    private static void greyOnTheFirstDay() {
        GreyByFriday x = Check.laid("p0,1,0,0;p0,1,0,0;d1,0,0,1;h1,0,0;");
        due("by Monday's deed", x.grey(0), 1);
        due("on day 1", x.grey(1), 1);
        x.sell(0, 0, 1);
        due("grey already, and at the end of the day", x.grey(0), 0);
        due("on day 1", x.grey(1), 1);
        GreyByFriday y = Check.laid("p2,0,0,1;");
        due("by the sea", y.grey(0), 0);
        due("on day 1", y.grey(1), 1);
    }

    private static void greyAheadOfTheRation() {
        GreyByFriday x = passed("p0,2,0,0;p0,9,0,0;d2,0,0,1;h0,6,0;", 6);
        due("on Sunday ahead of step 3", x.grey(0), 0);
        due("on day 1", x.grey(1), 1);
        x.pass(1);
        due("on Monday all is anew", x.count(5), 0);
        due("the next Sunday is the seventh day", x.grey(1), 7);
    }

    private static void greyOfSeveralTheLowest() {
        GreyByFriday x = Check.laid("p0,1,0,0;p0,1,0,0;p0,1,0,0;p0,2,0,0;d1,0,0,1;h0,3,0;h1,2,0;h2,2,0;h3,1,0;");
        due("who", x.grey(0), 1);
        due("when", x.grey(1), 3);
    }

    private static void greyNobody() {
        GreyByFriday x = Check.laid("p0,0,0,1;p1,1,0,0;");
        due("who", x.grey(0), NONE);
        due("when", x.grey(1), NONE);
        due("a number that is none, ahead of none", x.grey(2), BAD);
        due("a number that is none, ahead of none", x.grey(-1), BAD);
    }

    private static void bestWithoutDeeds() {
        GreyByFriday x = Check.laid("p0,9,9,9;");
        due("worth nothing", x.best(0, -1), 0);
        due("no deed 0", x.best(0, 0), BAD);
        due("k -2", x.best(0, -2), BAD);
    }

    private static void bestWithNothing() {
        GreyByFriday x = Check.laid("p0,0,0,0;p3,0,0,0;p4,1,1,1;d0,0,2,9;d4,0,0,9;");
        for (int i = 0; i < 3; i++) {
            due("worth nothing", x.best(i, -1), 0);
            due("none of 0", x.best(i, 0), 0);
            due("none of 1", x.best(i, 1), 0);
        }
    }

    private static void bestIsEachFiveTimesAtMost() {
        for (int red = 0; red <= 9; red++) {
            GreyByFriday x = Check.laid("p0," + red + ",0,0;d1,0,0,3;");
            due("with " + red, x.best(0, 0), Math.min(5, red));
            due("worth with " + red, x.best(0, -1), 3 * Math.min(5, red));
        }
        GreyByFriday x = Check.laid("p0,9,0,0;d1,0,0,9;d1,0,0,1;");
        due("five times the better one", x.best(0, 0), 5);
        due("then the other one", x.best(0, 1), 4);
        due("worth", x.best(0, -1), 49);
    }

    private static void bestIsOfFewestDeeds() {
        GreyByFriday x = Check.laid("p0,4,4,0;d1,0,0,2;d2,0,0,4;d0,1,0,0;");
        due("worth", x.best(0, -1), 8);
        due("not four", x.best(0, 0), 0);
        due("but two", x.best(0, 1), 2);
        due("none that are worth nothing", x.best(0, 2), 0);
        x = Check.laid("p0,9,9,9;d1,0,0,0;d0,1,0,0;");
        due("all are worth nothing", x.best(0, -1), 0);
        due("so none is done", x.best(0, 0) + x.best(0, 1), 0);
    }

    private static void bestHasDeed0MostOften() {
        GreyByFriday x = Check.laid("p0,3,1,0;p0,0,2,0;d1,0,0,3;d0,1,0,3;d0,1,0,3;d1,0,0,3;");
        int[][] want = {{3, 1, 0, 0}, {0, 2, 0, 0}};
        for (int i = 0; i < 2; i++) {
            for (int k = 0; k < 4; k++) {
                due("person " + i + " deed " + k, x.best(i, k), want[i][k]);
            }
        }
        x = Check.laid("p0,0,7,0;d1,0,0,9;d0,1,0,1;d0,1,0,1;");
        due("the first that he can", x.best(0, 1), 5);
        due("then the next", x.best(0, 2), 2);
    }

    private static void bestCanHaveLessOfDeed0() {
        GreyByFriday x = Check.laid("p0,5,0,0;d4,0,0,9;d1,0,0,1;d1,0,0,9;");
        due("five of the last one", x.best(0, -1), 45);
        due("none of the first one", x.best(0, 0) + x.best(0, 1), 0);
        due("five", x.best(0, 2), 5);
        x = Check.laid("p0,9,0,0;d4,0,0,9;d1,0,0,3;");
        due("one of the first one", x.best(0, -1), 24);
        due("one", x.best(0, 0), 1);
        due("and five", x.best(0, 1), 5);
    }

    private static void bestBehindAnotherBest() {
        GreyByFriday x = Check.laid("p0,5,5,0;p0,0,0,0;p0,5,0,0;d1,0,0,1;d0,1,0,9;");
        due("one who has much", x.best(0, 0) * 10 + x.best(0, 1), 55);
        due("one who has nothing", x.best(1, 0) * 10 + x.best(1, 1), 0);
        due("worth nothing", x.best(1, -1), 0);
        due("one who has some", x.best(2, 0) * 10 + x.best(2, 1), 50);
    }

    private static void bestDoesDeed0First() {
        GreyByFriday x = Check.laid("p4,2,2,0;d0,0,1,1;d2,0,0,5;");
        due("blue first takes his red ones", x.best(0, -1), 5);
        due("so not", x.best(0, 0), 0);
        due("but", x.best(0, 1), 1);
        x = Check.laid("p4,2,2,0;d2,0,0,5;d0,0,1,1;");
        due("red first leaves his yellow ones", x.best(0, -1), 6);
        due("both", x.best(0, 0) * 10 + x.best(0, 1), 11);
    }

    private static void bestMayNeedADeedThatIsWorthNothing() {
        GreyByFriday x = Check.laid("p4,4,4,1;p4,4,4,1;d1,0,0,0;d0,0,2,5;d2,0,0,5;");
        x.act(1, 1);
        check.due("at once he mixes of red", Check.thimbles(x, 1), "2,4,0");
        due("and has red for one more", x.best(1, -1), 5);
        due("a red one less, and he mixes of yellow", x.best(0, -1), 15);
        due("worth nothing", x.best(0, 0), 1);
        due("mixed of yellow", x.best(0, 1), 1);
        due("red, and red mixed of yellow", x.best(0, 2), 2);
    }

    private static void bestOfAChild() {
        GreyByFriday x = Check.laid("p3,0,5,0;p0,0,5,0;d1,1,0,1;d0,2,0,1;");
        due("one less each time", x.best(0, -1), 5);
        due("deed 0 five times", x.best(0, 0), 5);
        due("another one", x.best(1, -1), 2);
        due("another one", x.best(1, 1), 2);
    }

    private static void bestOfAllSixDeedsFiveTimes() {
        GreyByFriday x = Check.laid("p1,9,9,9;d3,3,3,9;d1,0,0,9;d0,1,0,9;d0,0,1,9;d1,1,0,8;d0,1,1,1;");
        for (int week = 0; week < 3; week++) {
            x.pass(28);
        }
        due("worth", x.best(0, -1), 5 * (9 * 4 + 8 + 1));
        for (int k = 0; k < 6; k++) {
            due("deed " + k, x.best(0, k), 5);
        }
    }

    private static void lendingOfNothing() {
        due("nothing told", Check.laid("p0,0,0,0;p0,9,9,9;d1,0,0,1;h0,1,0;").lending(), 0);
        due("no deeds", Check.laid("p0,0,0,0;").lending(), 0);
        due("all have just enough", Check.laid("p0,1,0,0;p0,1,0,0;d1,0,0,1;h0,0,0;h1,0,0;").lending(), 0);
    }

    private static void lendingOfJustEnough() {
        GreyByFriday x = Check.laid("p0,5,0,0;p0,1,0,0;p0,0,0,0;d2,0,0,1;h0,0,0;h1,0,0;h2,0,0;");
        due("six for six", x.lending(), 3);
        x.sell(0, 0, 1);
        due("five for six", x.lending(), NONE);
        x.undo();
        x.sell(1, 0, 1);
        due("five for six", x.lending(), NONE);
        due("one alone", Check.laid("p0,0,9,9;d1,0,0,1;h0,0,0;").lending(), NONE);
        due("another sort is no help", Check.laid("p0,0,9,9;p0,0,9,9;d1,0,0,1;h0,0,0;").lending(), NONE);
    }

    private static void lendingIsForToday() {
        GreyByFriday x = Check.laid("p0,0,0,0;p0,9,0,0;d1,0,0,1;d2,0,0,1;h0,0,0;h0,1,1;h0,6,1;");
        due("Monday", x.lending(), 1);
        x.pass(1);
        due("Tuesday", x.lending(), 2);
        x.pass(1);
        due("Wednesday", x.lending(), 0);
        x.pass(4);
        due("Sunday", x.lending(), 2);
        x.pass(1);
        due("Monday again", x.lending(), 1);
    }

    private static void lendingToAChildAndToAPainter() {
        GreyByFriday x = Check.laid("p3,0,0,0;p0,9,9,9;d1,1,0,1;d1,0,0,1;h0,0,0;h0,1,1;");
        due("a child needs one less", x.lending(), 1);
        x.pass(1);
        due("a child needs the only one", x.lending(), 1);
        x = Check.laid("p4,0,9,9;p0,1,0,0;d1,0,0,1;h0,0,0;");
        due("a painter could mix it", x.can(0, 0), 1);
        due("but needs it as others", x.lending(), 1);
        x.sell(1, 0, 1);
        due("and has none", x.lending(), NONE);
    }

    private static void lendingOfSeveralSorts() {
        GreyByFriday x = Check.laid("p0,0,3,1;p0,4,0,1;d2,2,1,1;h0,0,0;h1,0,0;");
        due("yellow is too few", x.lending(), NONE);
        x = Check.laid("p0,0,4,1;p0,4,0,1;d2,2,1,1;h0,0,0;h1,0,0;");
        due("two this way, two that way", x.lending(), 4);
        due("nothing was lent", x.person(0, 1), 0);
    }

    private static void lendingAmongSix() {
        GreyByFriday x = Check.laid("p0,0,0,0;p0,0,0,0;p0,0,0,0;p0,0,0,0;p0,0,0,0;p0,6,0,0;d1,0,0,1;"
                + "h0,0,0;h1,0,0;h2,0,0;h3,0,0;h4,0,0;h5,0,0;");
        due("one to each", x.lending(), 5);
        x.sell(5, 0, 1);
        due("one too few", x.lending(), NONE);
    }

    private static void heapOfNothing() {
        due("nobody is needed", Check.laid("p0,0,0,0;").heap(0, 0, 0), 0);
        due("nobody is needed", Check.laid("p0,9,9,9;p0,9,9,9;").heap(0, 0, 0), 0);
        due("nobody has any", Check.laid("p0,0,0,0;").heap(1, 0, 0), NONE);
    }

    private static void heapOfJustAsMany() {
        GreyByFriday x = Check.laid("p0,2,3,4;p0,3,4,2;");
        due("one", x.heap(2, 3, 4), 1);
        due("the other one", x.heap(3, 4, 2), 2);
        due("a red one more", x.heap(3, 3, 4), 3);
        due("a yellow one more", x.heap(2, 4, 4), 3);
        due("a blue one more", x.heap(2, 3, 5), 3);
        due("both", x.heap(5, 7, 6), 3);
        due("a red one too many", x.heap(6, 7, 6), NONE);
        due("a yellow one too many", x.heap(5, 8, 6), NONE);
        due("a blue one too many", x.heap(5, 7, 7), NONE);
    }

    private static void heapOfAllSix() {
        GreyByFriday x = Check.laid("p0,1,0,1;".repeat(5) + "p0,1,1,1;");
        int[] lowest = {0, 1, 3, 7, 15, 31, 63, NONE};
        for (int n = 0; n <= 7; n++) {
            due("heap of " + n, x.heap(n, 0, 0), lowest[n]);
        }
        due("with the last one", x.heap(2, 1, 0), 33);
    }

    private static void heapOf99() {
        GreyByFriday x = Check.laid("p0,9,9,9;p1,9,9,9;p1,9,9,9;");
        for (int n = 0; n < 3; n++) {
            x.pass(28);
        }
        due("99 of each", x.heap(99, 99, 99), 2);
        x.sell(1, 2, 1);
        due("98 of one", x.heap(99, 99, 99), 4);
        x.sell(2, 0, 1);
        due("98 of both, and the lowest one helps", x.heap(99, 99, 99), 3);
        due("98", x.heap(99, 98, 98), 2);
        due("100", x.heap(100, 0, 0), BAD);
        due("100", x.heap(0, 100, 0), BAD);
        due("100", x.heap(0, 0, 100), BAD);
    }

    private static void heapOfSeveralSetsTheLowest() {
        GreyByFriday x = Check.laid("p0,1,0,0;p0,4,0,0;p0,4,0,0;p0,7,0,0;");
        due("0 and 3, 1 and 2, ..", x.heap(8, 0, 0), 6);
        due("3 or two", x.heap(7, 0, 0), 8);
        due("1 or 2", x.heap(4, 0, 0), 2);
        due("1 and 3, 2 and 3", x.heap(9, 0, 0), 10);
        due("three of them", x.heap(12, 0, 0), 11);
        due("three without 0", x.heap(13, 0, 0), 14);
    }
}
