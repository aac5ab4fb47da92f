/** The edges of part 4 of the document, what was, and of promises 21 to 29, a sentence a test. */
public final class PastEdgeTest {
    private static final int BAD = GreyByFriday.BAD;
    private static final int NO = GreyByFriday.NO;
    private static final int FULL = GreyByFriday.FULL;
    private static final int NONE = GreyByFriday.NONE;
    private static final Check check = new Check("past");

    public static void main(String[] args) {
        sevenSeenAtMost();
        sevenSeenOfAll();
        aDaySeenIs1To4();
        aHueSeenIs0To7();
        seenStaysWhatEverIsUndone();
        forgetNothingAndAll();
        spentWithNothingSeen();
        spentToTheLastDaySeenOfHim();
        spentInNoWay();
        spentInOneWay();
        spentInMostWays();
        spentByWhatHeThenCan();
        spentInPlaceOfWhatIsTold();
        spentNoneAheadOfDeed0();
        spentAheadOfTheRation();
        spentAcrossAnyDay6();
        spentAtTheSea();
        spentFromTheDayThatAsks();
        savedNow();
        savedTo50Mondays();
        savedOf99();
        savedWithoutDeeds();
        savedAsTheMondayBegins();
        savedByWhoDoesNotSave();
        lastsNoTimes();
        lastsSevenTimes();
        lastsByNoneAndAllOfTen();
        lastsInLowestTerms();
        lastsByWhatHeHasNow();
        aYearOfOneDay();
        aYearOf60Days();
        aYearByTheLastDraw();
        aYearWithoutDeeds();
        aYearIsWorthItsOwnDeeds();
        aYearIsGreyAheadOfTheRation();
        twoKeptAtMost();
        backToTheLastKept();
        backToWhatIsKept();
        nothingIsUndoneBehindBack();
        countOfTheEmptyAndTheFull();
        check.end();
    }

    private static void due(String call, long got, long want) {
        check.due(call, got, want);
    }

    private static void sevenSeenAtMost() {
        GreyByFriday x = Check.laid("p0,1,1,1;");
        for (int n = 1; n <= 7; n++) {
            due("seen " + n, x.seen(0, 1, 7), n);
        }
        due("an eighth", x.seen(0, 1, 7), FULL);
        due("an eighth of another day", x.seen(0, 4, 0), FULL);
        due("seven", x.count(6), 7);
        due("the eighth is not seen", x.spent(0, 0), 1);
        due("nor its day", x.spent(0, 2), BAD);
        due("forget seven", x.forget(), 7);
        due("room again", x.seen(0, 4, 7), 1);
    }

    private static void sevenSeenOfAll() {
        GreyByFriday x = Check.laid("p0,1,1,1;p0,1,1,1;p0,1,1,1;");
        for (int n = 1; n <= 7; n++) {
            due("seen " + n, x.seen(n % 3, 1 + n % 4, n), n);
        }
        for (int i = 0; i < 3; i++) {
            due("an eighth of " + i, x.seen(i, 1, 7), FULL);
        }
    }

    private static void aDaySeenIs1To4() {
        for (int day = -1; day <= 6; day++) {
            GreyByFriday x = Check.laid("p0,1,1,1;");
            boolean told = day >= 1 && day <= 4;
            due("seen on day " + day, x.seen(0, day, 7), told ? 1 : BAD);
            due("so many", x.count(6), told ? 1 : 0);
            for (int k = 1; k <= 5; k++) {
                due("spent on day " + k, x.spent(0, k), told && k <= day ? NONE : BAD);
            }
        }
    }

    private static void aHueSeenIs0To7() {
        for (int hue = 0; hue <= 7; hue++) {
            GreyByFriday x = Check.laid("p0," + (hue & 1) + "," + (hue >> 1 & 1) + "," + (hue >> 2) + ";");
            for (int other = 0; other <= 7; other++) {
                x.forget();
                x.seen(0, 1, other);
                due(hue + " seen as " + other, x.spent(0, 0), hue == other ? 1 : 0);
            }
            due("seen as 8", x.seen(0, 1, 8), BAD);
            due("seen as -1", x.seen(0, 1, -1), BAD);
        }
    }

    private static void seenStaysWhatEverIsUndone() {
        GreyByFriday x = Check.laid("p0,1,1,1;");
        x.sell(0, 0, 1);
        x.keep();
        x.seen(0, 1, 6);
        x.undo();
        due("undone", x.count(6), 1);
        x.back();
        due("back", x.count(6), 1);
        due("still so", x.spent(0, 0), 1);
        x.pass(30);
        due("days later", x.count(6), 1);
        x.lay();
        due("laid anew", x.count(6), 0);
    }

    private static void forgetNothingAndAll() {
        GreyByFriday x = Check.laid("p0,1,1,1;");
        due("nothing", x.forget(), 0);
        x.seen(0, 2, 0);
        due("one", x.forget(), 1);
        due("nothing again", x.forget(), 0);
        due("no day of it is left", x.spent(0, 1), BAD);
        due("any way", x.spent(0, 0), 1);
    }

    private static void spentWithNothingSeen() {
        GreyByFriday x = Check.laid("p0,1,1,1;p0,1,1,1;d1,0,0,1;");
        due("one way of no days", x.spent(0, 0), 1);
        due("no day 1", x.spent(0, 1), BAD);
        due("no day -1", x.spent(0, -1), BAD);
        x.seen(1, 4, 7);
        due("another one's days are not his", x.spent(0, 0), 1);
        due("nor has he a day 1", x.spent(0, 1), BAD);
    }

    private static void spentToTheLastDaySeenOfHim() {
        GreyByFriday x = Check.laid("p0,9,9,9;p0,9,9,9;d1,0,0,1;");
        x.seen(0, 2, 7);
        due("two days", x.spent(0, 0), 4);
        due("day 2", x.spent(0, 2), NONE);
        due("day 3", x.spent(0, 3), BAD);
        x.seen(0, 1, 7);
        due("an earlier one", x.spent(0, 0), 4);
        x.seen(1, 4, 7);
        due("another one's", x.spent(0, 0), 4);
        x.seen(0, 4, 7);
        due("four days, nothing seen on the third", x.spent(0, 0), 16);
        due("day 4", x.spent(0, 4), NONE);
        due("day 5", x.spent(0, 5), BAD);
    }

    private static void spentInNoWay() {
        GreyByFriday x = Check.laid("p0,1,0,0;d1,0,0,1;");
        x.seen(0, 2, 1);
        x.seen(0, 1, 0);
        due("grey, then not", x.spent(0, 0), 0);
        due("on day 1", x.spent(0, 1), NONE);
        due("on day 2", x.spent(0, 2), NONE);
        due("on day 3", x.spent(0, 3), BAD);
        x.forget();
        x.seen(0, 1, 1);
        x.seen(0, 1, 0);
        due("two hues at once", x.spent(0, 0), 0);
        due("on day 1", x.spent(0, 1), NONE);
        x.forget();
        x.seen(0, 1, 1);
        x.seen(0, 1, 1);
        due("the same twice", x.spent(0, 0), 1);
    }

    private static void spentInOneWay() {
        GreyByFriday x = Check.laid("p0,4,0,0;d1,0,0,1;");
        x.seen(0, 4, 0);
        due("a deed each day", x.spent(0, 0), 1);
        for (int k = 1; k <= 4; k++) {
            due("day " + k, x.spent(0, k), 0);
        }
        x = Check.laid("p0,1,1,1;");
        x.seen(0, 4, 7);
        due("without deeds", x.spent(0, 0), 1);
        due("nothing is done", x.spent(0, 4), NONE);
        x.seen(0, 3, 6);
        due("nothing could be", x.spent(0, 0), 0);
    }

    private static void spentInMostWays() {
        GreyByFriday x = Check.laid("p0,9,9,9;d1,0,0,1;d0,1,0,1;d0,0,1,1;d1,1,0,1;d0,1,1,1;d1,0,1,1;");
        for (int day = 1, ways = 7; day <= 4; day++, ways *= 7) {
            x.forget();
            x.seen(0, day, 7);
            due("ways of " + day + " days", x.spent(0, 0), ways);
            due("first none", x.spent(0, day), NONE);
        }
    }

    private static void spentByWhatHeThenCan() {
        GreyByFriday x = Check.laid("p0,2,0,0;p3,1,0,0;p4,1,2,0;d1,0,0,1;d2,0,0,1;");
        x.seen(0, 2, 0);
        due("1 and 1, 2 and none, none and 2", x.spent(0, 0), 3);
        due("none first", x.spent(0, 1), NONE);
        due("then all", x.spent(0, 2), 1);
        x.seen(1, 1, 0);
        due("a child can do both", x.spent(1, 0), 2);
        due("deed 0 first", x.spent(1, 1), 0);
        x.seen(2, 1, 0);
        due("a painter mixes", x.spent(2, 0), 1);
        due("the dear one", x.spent(2, 1), 1);
        x.seen(2, 2, 0);
        due("then nothing", x.spent(2, 0), 1);
        due("then nothing", x.spent(2, 2), NONE);
    }

    private static void spentInPlaceOfWhatIsTold() {
        GreyByFriday x = Check.laid("p0,1,0,0;d1,0,0,1;h0,0,0;");
        x.seen(0, 1, 1);
        due("what is told was not done", x.spent(0, 0), 1);
        due("nothing was", x.spent(0, 1), NONE);
        x.forget();
        x.seen(0, 1, 0);
        due("it was done once", x.spent(0, 0), 1);
        due("it was", x.spent(0, 1), 0);
    }

    private static void spentNoneAheadOfDeed0() {
        GreyByFriday x = Check.laid("p0,1,1,0;d1,0,0,1;d0,1,0,1;");
        x.seen(0, 2, 2);
        due("red on either day", x.spent(0, 0), 2);
        due("none on day 1", x.spent(0, 1), NONE);
        due("red on day 2", x.spent(0, 2), 0);
        x.forget();
        x.seen(0, 2, 0);
        due("both, either first", x.spent(0, 0), 2);
        due("red on day 1", x.spent(0, 1), 0);
        due("yellow on day 2", x.spent(0, 2), 1);
        x.seen(0, 1, 1);
        due("yellow first", x.spent(0, 0), 1);
        due("yellow on day 1", x.spent(0, 1), 1);
        due("red on day 2", x.spent(0, 2), 0);
    }

    private static void spentAheadOfTheRation() {
        GreyByFriday x = Check.laid("p0,1,0,0;p1,1,0,0;d1,0,0,1;");
        x.pass(6);
        x.seen(0, 1, 0);
        due("grey on Sunday", x.spent(0, 0), 1);
        due("by a deed", x.spent(0, 1), 0);
        x.seen(0, 2, 1);
        due("red on Monday", x.spent(0, 0), 1);
        due("no deed then", x.spent(0, 2), NONE);
        x.seen(1, 2, 0);
        due("a saver has two by Monday's end", x.spent(1, 0), 1);
        due("Sunday", x.spent(1, 1), 0);
        due("Monday", x.spent(1, 2), 0);
        GreyByFriday y = Check.laid("p0,1,0,0;d1,0,0,1;");
        y.pass(5);
        y.seen(0, 1, 0);
        y.seen(0, 2, 1);
        due("Saturday's end brings nothing", y.spent(0, 0), 0);
    }

    /** From each weekday on: the d-th DAY ends a week just if it is a Sunday. */
    private static void spentAcrossAnyDay6() {
        for (int weekday = 0; weekday <= 6; weekday++) {
            for (int day = 1; day <= 3; day++) {
                GreyByFriday x = Check.laid("p0,1,0,0;d1,0,0,1;");
                if (weekday > 0) {
                    x.pass(weekday);
                }
                x.seen(0, day, 0);
                x.seen(0, day + 1, 1);
                boolean sunday = weekday + day - 1 == 6;
                String label = "grey on day " + day + " from weekday " + weekday + ", red on the next";
                due(label, x.spent(0, 0), sunday ? day : 0);
                due(label + ": the deed", x.spent(0, day), sunday ? 0 : NONE);
                due(label + ": no deed then", x.spent(0, day + 1), NONE);
            }
        }
    }

    private static void spentAtTheSea() {
        GreyByFriday x = Check.laid("p2,0,0,2;d0,0,1,1;");
        x.seen(0, 1, 0);
        due("one spent, one lost", x.spent(0, 0), 1);
        due("one spent", x.spent(0, 1), 0);
        x.forget();
        x.seen(0, 2, 0);
        due("none, one or the other day", x.spent(0, 0), 3);
        x.seen(0, 1, 4);
        due("not on the first", x.spent(0, 0), 2);
    }

    private static void spentFromTheDayThatAsks() {
        GreyByFriday x = Check.laid("p0,1,0,0;d1,0,0,1;");
        x.seen(0, 1, 0);
        x.sell(0, 0, 1);
        due("grey as things stand", x.spent(0, 0), 1);
        due("without a deed", x.spent(0, 1), NONE);
        x.pass(7);
        due("by what he has then", x.spent(0, 0), 1);
        due("with a deed", x.spent(0, 1), 0);
    }

    private static void savedNow() {
        GreyByFriday x = Check.laid("p1,3,0,0;p0,0,0,0;");
        due("nothing is there at once", x.saved(1, 0, 0), 0);
        due("just as many", x.saved(0, 0, 3), 0);
        due("one more", x.saved(0, 0, 4), 1);
        due("one who gets none", x.saved(0, 1, 1), NONE);
        due("nothing for who gets none", x.saved(0, 1, 0), 0);
        due("n -1", x.saved(0, 0, -1), BAD);
    }

    private static void savedTo50Mondays() {
        GreyByFriday x = Check.laid("p1,1,2,0;");
        for (int n = 49; n <= 53; n++) {
            due("saved " + n, x.saved(0, 0, n), n <= 51 ? n - 1 : NONE);
        }
        x.sell(0, 0, 1);
        due("50 by 50 Mondays", x.saved(0, 0, 50), 50);
        due("51 by 51", x.saved(0, 0, 51), NONE);
        due("99 by 49", x.saved(0, 1, 99), 49);
        x.sell(0, 1, 2);
        due("99 by 50", x.saved(0, 1, 99), 50);
    }

    private static void savedOf99() {
        GreyByFriday x = Check.laid("p1,9,8,0;");
        due("99", x.saved(0, 0, 99), 10);
        due("99, of 104", x.saved(0, 1, 99), 12);
        due("100", x.saved(0, 0, 100), BAD);
        for (int n = 0; n < 3; n++) {
            x.pass(28);
        }
        due("99 now", x.saved(0, 0, 99), 0);
        due("100 still", x.saved(0, 0, 100), BAD);
    }

    private static void savedWithoutDeeds() {
        GreyByFriday x = Check.laid("p1,1,0,0;d1,0,0,1;h0,0,0;h0,3,0;");
        due("what is told is not done", x.saved(0, 0, 3), 2);
        x.act(0, 0);
        due("what was done is", x.saved(0, 0, 3), 3);
    }

    private static void savedAsTheMondayBegins() {
        GreyByFriday x = Check.laid("p1,2,0,0;");
        due("on a Monday", x.saved(0, 0, 4), 1);
        x.pass(6);
        due("on a Sunday", x.saved(0, 0, 4), 1);
        due("by two", x.saved(0, 0, 5), 2);
        x.pass(1);
        due("the next day", x.saved(0, 0, 4), 0);
        due("by one", x.saved(0, 0, 5), 1);
    }

    private static void savedByWhoDoesNotSave() {
        for (int kind : new int[] {0, 2, 3, 4}) {
            GreyByFriday x = Check.laid("p" + kind + ",0,0,4;p1,0,0,9;");
            due("his ration", x.saved(0, 2, 4), 0);
            due("more than it", x.saved(0, 2, 5), NONE);
            x.lend(1, 0, 2, 9);
            due("lent", x.saved(0, 2, 13), 0);
            due("more than lent", x.saved(0, 2, 14), NONE);
            x.sell(0, 2, 12);
            due("anew", x.saved(0, 2, 4), 1);
            due("left", x.saved(0, 2, 1), 0);
        }
    }

    /** Both parts of a chance. */
    private static void chance(String call, GreyByFriday x, int[] numbers, int above, int below) {
        due(call + ", above", x.lasts(numbers[0], numbers[1], numbers[2], numbers[3], 0), above);
        due(call + ", below", x.lasts(numbers[0], numbers[1], numbers[2], numbers[3], 1), below);
    }

    private static void lastsNoTimes() {
        GreyByFriday x = Check.laid("p0,0,0,0;d1,0,0,1;");
        for (int wanted = 0; wanted <= 10; wanted++) {
            chance("no times by " + wanted, x, new int[] {0, 0, wanted, 0}, 1, 1);
        }
        due("-1 times", x.lasts(0, 0, 5, -1, 0), BAD);
    }

    private static void lastsSevenTimes() {
        GreyByFriday x = Check.laid("p0,7,6,0;d1,0,0,1;d0,1,0,1;d0,0,1,1;");
        chance("seven for seven", x, new int[] {0, 0, 9, 7}, 1, 1);
        chance("six for seven", x, new int[] {0, 1, 9, 7}, 5217031, 10000000);
        chance("six for seven, by five", x, new int[] {0, 1, 5, 7}, 127, 128);
        chance("none for seven, by one", x, new int[] {0, 2, 1, 7}, 4782969, 10000000);
        chance("none for seven, by nine", x, new int[] {0, 2, 9, 7}, 1, 10000000);
        due("eight times", x.lasts(0, 0, 5, 8, 0), BAD);
    }

    private static void lastsByNoneAndAllOfTen() {
        GreyByFriday x = Check.laid("p0,3,0,0;d1,0,0,1;d0,1,0,1;");
        for (int times = 1; times <= 7; times++) {
            chance("never wanted", x, new int[] {0, 1, 0, times}, 1, 1);
            chance("always wanted", x, new int[] {0, 0, 10, times}, times <= 3 ? 1 : 0, 1);
            chance("always wanted, never to be had", x, new int[] {0, 1, 10, times}, 0, 1);
        }
        due("by eleven", x.lasts(0, 0, 11, 1, 0), BAD);
        due("by -1", x.lasts(0, 0, -1, 1, 0), BAD);
    }

    private static void lastsInLowestTerms() {
        GreyByFriday x = Check.laid("p0,1,0,0;d1,0,0,1;d0,1,0,1;");
        int[][] one = {{9, 10}, {4, 5}, {7, 10}, {3, 5}, {1, 2}, {2, 5}, {3, 10}, {1, 5}, {1, 10}};
        for (int wanted = 1; wanted <= 9; wanted++) {
            chance("once by " + wanted, x, new int[] {0, 1, wanted, 1}, one[wanted - 1][0], one[wanted - 1][1]);
        }
        chance("one of two by four", x, new int[] {0, 0, 4, 2}, 21, 25);
        chance("one of three by two", x, new int[] {0, 0, 2, 3}, 112, 125);
        chance("none of seven by eight", x, new int[] {0, 1, 8, 7}, 1, 78125);
    }

    private static void lastsByWhatHeHasNow() {
        GreyByFriday x = Check.laid("p1,2,0,0;p3,2,0,0;p4,0,5,4;d2,0,0,1;d1,0,0,1;");
        chance("no ration between", x, new int[] {0, 0, 10, 2}, 0, 1);
        chance("a child at its own", x, new int[] {1, 0, 10, 2}, 1, 1);
        chance("and no more", x, new int[] {1, 0, 10, 3}, 0, 1);
        chance("a painter gives 2, 2, 2 and 2", x, new int[] {2, 1, 10, 4}, 1, 1);
        chance("and has one left", x, new int[] {2, 1, 10, 5}, 0, 1);
        x.sell(0, 0, 1);
        chance("by what is left", x, new int[] {0, 1, 5, 2}, 3, 4);
        due("part 2", x.lasts(0, 0, 5, 2, 2), BAD);
        due("nothing went", x.person(0, 1), 1);
    }

    private static void aYearOfOneDay() {
        // By z 0 the DRAWS of the first day are 0, 5587 and 5805, by x 1, 332 and 663.
        GreyByFriday x = Check.laid("p0,9,9,0;p0,9,9,0;p0,9,9,0;d1,0,0,1;d0,1,0,5;");
        due("deed 0, deed 1, deed 0", x.year(0, 1, 1), 7);
        x = Check.laid("p0,9,9,0;p0,9,9,0;p0,9,9,0;d1,0,0,1;d0,1,0,5;d1,0,0,7;");
        due("deed 0, none, deed 1", x.year(0, 1, 1), 6);
        due("nobody is grey", x.year(0, 1, 0), 0);
        x = Check.laid("p0,1,0,0;p0,9,0,0;d1,0,0,1;");
        due("deed 0, none", x.year(0, 1, 1), 1);
        due("one is grey", x.year(0, 1, 0), 1);
        due("no days", x.year(0, 0, 0), BAD);
    }

    private static void aYearOf60Days() {
        GreyByFriday x = Check.laid("p0,0,0,0;d1,0,0,1;");
        due("grey on each", x.year(9999, 60, 0), 60);
        due("grey on one", x.year(9999, 1, 0), 1);
        due("61 days", x.year(9999, 61, 0), BAD);
        due("in all 60 the draws of k 0 to 59", Check.laid("p1,9,0,0;d1,0,0,1;").year(0, 60, 1), evenDraws(0, 60));
        due("and of 59 k 0 to 58", Check.laid("p1,9,0,0;d1,0,0,1;").year(0, 59, 1), evenDraws(0, 59));
    }

    /** On how many DAYS the one PERSON of a street of one DEED does it, having enough. */
    private static int evenDraws(long z, int days) {
        int even = 0;
        for (int k = 0; k < days; k++) {
            long x = 7919 * z + 6151L * k + 1;
            even += x * x % 65521 / 8 % 2 == 0 ? 1 : 0;
        }
        return even;
    }

    private static void aYearByTheLastDraw() {
        // 79182082 times itself modulo 65521 is 51303; by 8, cut, 6412.
        due("z 9999", Check.laid("p0,9,0,0;d1,0,0,4;").year(9999, 1, 1), 4);
        due("z 9999, 6412 modulo 3 is 1", Check.laid("p0,9,0,0;d1,0,0,4;d1,0,0,7;").year(9999, 1, 1), 7);
        due("z 9999, 60 days", Check.laid("p1,9,0,0;d1,0,0,1;").year(9999, 60, 1), evenDraws(9999, 60));
        due("z 10000", Check.laid("p0,9,0,0;d1,0,0,4;").year(10000, 1, 1), BAD);
        due("z -1", Check.laid("p0,9,0,0;d1,0,0,4;").year(-1, 1, 1), BAD);
        // By z 1 and 2 it is 22803 and 59533; by 8, cut, 2850 and 7441.
        due("z 1", Check.laid("p0,9,0,0;d1,0,0,4;").year(1, 1, 1), 4);
        due("z 2: none", Check.laid("p0,9,0,0;d1,0,0,4;").year(2, 1, 1), 0);
    }

    private static void aYearWithoutDeeds() {
        GreyByFriday x = Check.laid("p2,0,0,1;p0,1,0,0;");
        due("worth nothing", x.year(77, 60, 1), 0);
        due("grey by the sea each day", x.year(77, 60, 0), 60);
        due("what -1", x.year(77, 60, -1), BAD);
        due("what 2", x.year(77, 60, 2), BAD);
    }

    private static void aYearIsWorthItsOwnDeeds() {
        GreyByFriday x = Check.laid("p0,9,0,0;p0,0,0,0;d1,0,0,4;h0,0,0;");
        x.act(0, 0);
        due("not what was done ahead", x.year(0, 1, 1), 4);
        due("what was done ahead", x.person(0, 6), 4);
        due("who can not does not", Check.laid("p0,0,0,0;d1,0,0,4;").year(0, 60, 1), 0);
    }

    private static void aYearIsGreyAheadOfTheRation() {
        GreyByFriday x = Check.laid("p2,0,0,7;");
        due("six days", x.year(3, 6, 0), 0);
        due("the seventh", x.year(3, 7, 0), 1);
        due("the eighth", x.year(3, 8, 0), 1);
        x.pass(6);
        due("from Sunday on", x.year(3, 1, 0), 1);
        due("to Monday", x.year(3, 2, 0), 1);
        due("to Sunday", x.year(3, 8, 0), 2);
        due("no day went by", x.count(3), 6);
    }

    private static void twoKeptAtMost() {
        GreyByFriday x = Check.laid("p0,9,0,0;");
        due("one", x.keep(), 1);
        x.sell(0, 0, 1);
        due("two", x.keep(), 2);
        x.sell(0, 0, 1);
        due("three", x.keep(), FULL);
        due("two still", x.count(8), 2);
        due("undone still", x.count(7), 2);
        due("back to the second", x.back(), 1);
        due("with one sold", x.person(0, 1), 8);
        due("room for one", x.keep(), 2);
        due("and no more", x.keep(), FULL);
    }

    private static void backToTheLastKept() {
        GreyByFriday x = Check.laid("p0,9,0,0;");
        due("none kept", x.back(), NO);
        for (int round = 0; round < 5; round++) {
            x.keep();
            x.sell(0, 0, 1);
            x.keep();
            x.sell(0, 0, 2);
            due("one left", x.back(), 1);
            due("one sold", x.person(0, 1), 8);
            due("none left", x.back(), 0);
            due("none sold", x.person(0, 1), 9);
            due("no more", x.back(), NO);
        }
        x.keep();
        due("the same at once", x.back(), 0);
        due("none sold", x.person(0, 1), 9);
    }

    private static void backToWhatIsKept() {
        GreyByFriday x = Check.laid("p0,9,0,0;d1,0,0,3;c4;");
        x.act(0, 0);
        x.sell(0, 0, 2);
        x.pass(2);
        x.keep();
        String kept = Check.thimbles(x, 0) + " " + x.count(3) + " " + x.person(0, 5) + " " + x.person(0, 6);
        check.due("kept", kept, "6,0,0 2 8 3");
        x.act(0, 0);
        x.sell(0, 0, 2);
        x.pass(13);
        x.seen(0, 1, 1);
        x.write('x');
        due("back", x.back(), 0);
        check.due("as kept", Check.thimbles(x, 0) + " " + x.count(3) + " " + x.person(0, 5) + " " + x.person(0, 6), kept);
        due("the weekday too", x.count(2), 2);
        due("what is seen is not kept", x.count(6), 1);
        due("nor is the text", x.count(9), 22);
    }

    private static void nothingIsUndoneBehindBack() {
        GreyByFriday x = Check.laid("p0,9,0,0;");
        x.sell(0, 0, 1);
        x.keep();
        due("keep leaves what can be undone", x.count(7), 1);
        x.sell(0, 0, 1);
        x.undo();
        x.back();
        due("back", x.count(7), 0);
        due("undo", x.undo(), NO);
        due("as kept", x.person(0, 1), 8);
        x.sell(0, 0, 1);
        due("what comes behind it can be", x.undo(), 0);
        due("to what was kept", x.person(0, 1), 8);
        x.sell(0, 0, 1);
        due("back that is refused", x.back(), NO);
        due("leaves what can be undone", x.count(7), 1);
    }

    private static void countOfTheEmptyAndTheFull() {
        GreyByFriday x = Check.laid("p0,0,0,0;");
        int[] least = {1, 0, 0, 0, 0, 1, 0, 0, 0, 9};
        for (int what = 0; what <= 9; what++) {
            due("least " + what, x.count(what), least[what]);
        }
        x = Check.laid("p1,9,9,9;".repeat(6) + "d1,0,0,1;".repeat(6));
        for (int n = 0; n < 10; n++) {
            x.keep();
            x.seen(5, 4, 7);
            x.pass(n == 9 ? 27 : 30);
        }
        x.sell(5, 2, 99);
        x.sell(5, 1, 99);
        x.sell(5, 0, 99);
        Check.written(x, ";".repeat(200));
        x.write(';');
        int[] most = {6, 6, 3, 297, 5 * 297, 1, 7, 8, 2, 200};
        for (int what = 0; what <= 9; what++) {
            due("most " + what, x.count(what), most[what]);
        }
        due("10", x.count(10), BAD);
        due("-1", x.count(-1), BAD);
    }
}
