import java.util.function.Supplier;
import java.util.function.ToIntFunction;

/** BAD, NO, NONE, FULL: of several the first; nothing changes then, nor by a call that only asks. */
public final class RefusalTest {
    private static final int BAD = GreyByFriday.BAD;
    private static final int NO = GreyByFriday.NO;
    private static final int FULL = GreyByFriday.FULL;
    private static final int NONE = GreyByFriday.NONE;
    private static final Check check = new Check("refusal");

    public static void main(String[] args) {
        streets();
        days();
        lentAbove99();
        whatWas();
        nothingToUndoOrToGoBackTo();
        nobodyGrey();
        callsThatOnlyAsk();
        check.end();
    }

    private static void refused(String call, Supplier<GreyByFriday> made, ToIntFunction<GreyByFriday> asked, int want) {
        Whole.unchanged(check, call, made, asked, want);
    }

    private static void busy(String call, ToIntFunction<GreyByFriday> asked, int want) {
        refused(call, Whole::busy, asked, want);
    }

    private static GreyByFriday fullText() {
        GreyByFriday x = Check.laid("p0,1,2,3;");
        Check.written(x, "p0,3,2,1;" + "c1;".repeat(63) + "c2");
        return x;
    }

    private static GreyByFriday allSeen() {
        GreyByFriday x = Whole.busy();
        for (int n = 2; n < 7; n++) {
            x.seen(n % 2, 1 + n % 4, 7);
        }
        return x;
    }

    private static void streets() {
        busy("write(31)", x -> x.write(31), BAD);
        busy("write(127)", x -> x.write(127), BAD);
        refused("write to a full text", RefusalTest::fullText, x -> x.write(';'), FULL);
        refused("write no letter to a full text", RefusalTest::fullText, x -> x.write(127), BAD);
        busy("lay", GreyByFriday::lay, NO);
        busy("person(2, 0)", x -> x.person(2, 0), BAD);
        busy("person(0, 7)", x -> x.person(0, 7), BAD);
        busy("deed(2, 0)", x -> x.deed(2, 0), BAD);
        busy("deed(0, 4)", x -> x.deed(0, 4), BAD);
        busy("told(2, 0), which none could be", x -> x.told(2, 0), BAD);
        busy("told(0, 7), which none could be", x -> x.told(0, 7), BAD);
        busy("told(1, 0)", x -> x.told(1, 0), NONE);
        busy("can(2, 0)", x -> x.can(2, 0), BAD);
        busy("can(0, 2)", x -> x.can(0, 2), BAD);
    }

    private static GreyByFriday redless() {
        GreyByFriday x = Whole.busy();
        x.levy(0, 99);
        return x;
    }

    private static void days() {
        busy("pass(0)", x -> x.pass(0), BAD);
        busy("pass(31)", x -> x.pass(31), BAD);
        busy("act(2, 0)", x -> x.act(2, 0), BAD);
        busy("act(0, 2)", x -> x.act(0, 2), BAD);
        refused("act without red", RefusalTest::redless, x -> x.act(1, 0), NO);
        refused("act of nobody, without red", RefusalTest::redless, x -> x.act(-1, 0), BAD);
        busy("lend of more than he has", x -> x.lend(1, 0, 0, 3), NO);
        busy("lend of none", x -> x.lend(1, 0, 0, 0), BAD);
        busy("lend of 100", x -> x.lend(1, 0, 0, 100), BAD);
        busy("lend to himself", x -> x.lend(1, 1, 0, 1), BAD);
        busy("lend to himself of more than he has", x -> x.lend(1, 1, 0, 99), BAD);
        busy("lend to nobody of more than he has", x -> x.lend(1, 2, 0, 99), BAD);
        busy("lend of no sort", x -> x.lend(1, 0, 3, 99), BAD);
        busy("sell of more than he has", x -> x.sell(1, 0, 3), NO);
        busy("sell of what he has none of", x -> x.sell(1, 2, 1), NO);
        busy("sell of 100", x -> x.sell(1, 0, 100), BAD);
        busy("sell of none", x -> x.sell(1, 2, 0), BAD);
        busy("sell of no sort", x -> x.sell(1, 3, 99), BAD);
        busy("levy of none", x -> x.levy(0, 0), BAD);
        busy("levy of 100", x -> x.levy(0, 100), BAD);
        busy("levy of no sort", x -> x.levy(3, 1), BAD);
    }

    private static GreyByFriday rich() {
        GreyByFriday x = Check.laid("p1,9,0,0;p0,9,0,0;d1,0,0,1;");
        for (int n = 0; n < 3; n++) {
            x.pass(28);
        }
        return x;
    }

    private static void lentAbove99() {
        refused("lend above 99", RefusalTest::rich, x -> x.lend(1, 0, 0, 1), FULL);
        refused("lend all above 99", RefusalTest::rich, x -> x.lend(1, 0, 0, 9), FULL);
        refused("lend more than he has above 99", RefusalTest::rich, x -> x.lend(1, 0, 0, 10), NO);
        refused("lend 100 above 99", RefusalTest::rich, x -> x.lend(1, 0, 0, 100), BAD);
        refused("lend to himself above 99", RefusalTest::rich, x -> x.lend(0, 0, 0, 1), BAD);
    }

    private static void whatWas() {
        busy("seen on day 5", x -> x.seen(0, 5, 0), BAD);
        busy("seen on day 0", x -> x.seen(0, 0, 0), BAD);
        busy("seen of hue 8", x -> x.seen(0, 1, 8), BAD);
        busy("seen of nobody", x -> x.seen(2, 1, 1), BAD);
        refused("an eighth seen", RefusalTest::allSeen, x -> x.seen(0, 1, 7), FULL);
        refused("an eighth seen on day 5", RefusalTest::allSeen, x -> x.seen(0, 5, 7), BAD);
        refused("an eighth seen of nobody", RefusalTest::allSeen, x -> x.seen(2, 1, 7), BAD);
        busy("spent on a day behind the last", x -> x.spent(0, 3), BAD);
        busy("spent of nobody", x -> x.spent(2, 0), BAD);
        busy("saved 100", x -> x.saved(0, 0, 100), BAD);
        busy("saved 100 that would be none", x -> x.saved(1, 2, 100), BAD);
        busy("saved by nobody", x -> x.saved(2, 0, 99), BAD);
        busy("saved none", x -> x.saved(1, 2, 1), NONE);
        busy("lasts 8 times", x -> x.lasts(0, 0, 5, 8, 0), BAD);
        busy("year of 61 days", x -> x.year(0, 61, 0), BAD);
        busy("year by 10000", x -> x.year(10000, 60, 0), BAD);
        busy("a third kept", GreyByFriday::keep, FULL);
        busy("count(10)", x -> x.count(10), BAD);
    }

    private static GreyByFriday usedUp() {
        GreyByFriday x = Whole.busy();
        x.back();
        x.back();
        return x;
    }

    private static void nothingToUndoOrToGoBackTo() {
        refused("undo", RefusalTest::usedUp, GreyByFriday::undo, NO);
        refused("back", RefusalTest::usedUp, GreyByFriday::back, NO);
        refused("undo of a new one", GreyByFriday::new, GreyByFriday::undo, NO);
        refused("back of a new one", GreyByFriday::new, GreyByFriday::back, NO);
    }

    private static GreyByFriday colourful() {
        return Check.laid("p0,1,1,1;p1,0,0,1;d1,0,0,1;");
    }

    private static void nobodyGrey() {
        refused("grey(0)", RefusalTest::colourful, x -> x.grey(0), NONE);
        refused("grey(1)", RefusalTest::colourful, x -> x.grey(1), NONE);
        refused("grey(2), who could be none", RefusalTest::colourful, x -> x.grey(2), BAD);
        refused("heap", RefusalTest::colourful, x -> x.heap(99, 0, 0), NONE);
        refused("heap of 100, which could be none", RefusalTest::colourful, x -> x.heap(99, 0, 100), BAD);
        busy("best(2, -1)", x -> x.best(2, -1), BAD);
        busy("best(0, -2)", x -> x.best(0, -2), BAD);
        busy("behind 61 days", x -> x.behind(61, 0, 0), BAD);
        busy("behind -1 days", x -> x.behind(-1, 0, 0), BAD);
    }

    /** Person 0 has 3, 3, 2 then, person 1 2, 5, 0, and it is Wednesday. */
    private static void callsThatOnlyAsk() {
        busy("fault", GreyByFriday::fault, 9);
        busy("person", x -> x.person(0, 1), 3);
        busy("deed", x -> x.deed(1, 3), 4);
        busy("told", x -> x.told(0, 2), 1);
        busy("can", x -> x.can(0, 1), 1);
        busy("behind", x -> x.behind(60, 0, 4), 4 * 8 + 4);
        busy("grey", x -> x.grey(0), NONE);
        busy("best", x -> x.best(0, -1), 3 * 2 + 4);
        busy("lending", GreyByFriday::lending, 0);
        busy("heap", x -> x.heap(4, 6, 0), 3);
        busy("spent", x -> x.spent(0, 0), 8);
        busy("saved", x -> x.saved(0, 0, 99), 11);
        busy("lasts", x -> x.lasts(1, 1, 5, 3, 0), 7);
        busy("year", x -> x.year(0, 1, 0), 0);
        busy("count", x -> x.count(4), 15);
    }
}
