import java.util.function.Supplier;
import java.util.function.ToIntFunction;

/** All that an object holds, also what only later calls would show. */
final class Whole {
    private Whole() {
    }

    /** Uses the object up: undoes all that can be, goes back to all that is KEPT, lays THE TEXT. */
    static String of(GreyByFriday x) {
        StringBuilder all = new StringBuilder(Check.state(x)).append('|');
        for (int i = 0; i < x.count(0); i++) {
            for (int k = 1; k <= 4; k++) {
                all.append(x.spent(i, k)).append(' ');
            }
        }
        int undone = 0;
        while (undone >= 0) {
            undone = x.undo();
            all.append("|undo ").append(undone).append(' ').append(things(x));
        }
        int kept = 0;
        while (kept >= 0) {
            kept = x.back();
            all.append("|back ").append(kept).append(' ').append(things(x));
        }
        all.append("|lay ").append(x.lay()).append(' ').append(things(x));
        return all.append("|wipe ").append(x.wipe()).toString();
    }

    /** What comes, as far as it can be asked without telling anything. */
    static String comes(GreyByFriday x) {
        StringBuilder all = new StringBuilder();
        all.append(x.grey(0)).append(' ').append(x.grey(1)).append(' ').append(x.lending());
        all.append(' ').append(x.heap(1, 1, 1)).append(' ').append(x.heap(9, 0, 0));
        all.append(' ').append(x.year(5, 60, 0)).append(' ').append(x.year(5, 60, 1));
        for (int i = 0; i < x.count(0); i++) {
            for (int k = -1; k < x.count(1); k++) {
                all.append(' ').append(x.best(i, k));
            }
            all.append(' ').append(x.behind(60, i, 0)).append(' ').append(x.behind(60, i, 4));
            all.append(' ').append(x.saved(i, 0, 9));
        }
        return all.toString();
    }

    private static String things(GreyByFriday x) {
        StringBuilder all = new StringBuilder().append(x.count(3));
        for (int i = 0; i < x.count(0); i++) {
            for (int what : new int[] {1, 2, 3, 5, 6}) {
                all.append(' ').append(x.person(i, what));
            }
        }
        return all.toString();
    }

    /** A call that is refused, or only asks: its answer, and that the object is as its twin without the call. */
    static void unchanged(Check check, String call, Supplier<GreyByFriday> made,
            ToIntFunction<GreyByFriday> asked, int want) {
        GreyByFriday x = made.get();
        check.due(call, asked.applyAsInt(x), want);
        check.due(call + " changes nothing", of(x), of(made.get()));
    }

    /** A street of two PERSONS and two DEEDS with something of everything, behind which THE TEXT is another. */
    static GreyByFriday busy() {
        GreyByFriday x = Check.laid("p1,9,5,2;p0,3,3,0;d1,0,0,2;d0,2,0,4;h0,2,1;h1,6,0;c2;");
        x.act(0, 0);
        x.sell(1, 0, 1);
        x.keep();
        x.lend(0, 1, 1, 2);
        x.levy(0, 4);
        x.pass(2);
        x.keep();
        x.act(0, 0);
        x.seen(0, 2, 7);
        x.seen(1, 1, 3);
        Check.written(x, "p2,1,2,3;p0,1");
        return x;
    }
}
