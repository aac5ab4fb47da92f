import java.lang.reflect.Method;
import java.util.Arrays;
import java.util.function.Supplier;

/** Each number of each call: the last ones that are told, and the first ones that are not, on either side. */
public final class BoundsTest {
    private static final int BAD = GreyByFriday.BAD;
    private static final Check check = new Check("bounds");

    // A row a call: its name, then for each number the least and the most that is told, p and d standing
    // for the last PERSON and the last DEED.
    private static final String[] CALLS = {
        "write 32 126", "person 0 p 0 6", "deed 0 d 0 3", "told 0 p 0 6", "can 0 p 0 d",
        "pass 1 30", "act 0 p 0 d", "lend 0 p 0 p 0 2 1 99", "sell 0 p 0 2 1 99", "levy 0 2 1 99",
        "behind 0 60 0 p 0 4", "grey 0 1", "best 0 p -1 d", "heap 0 99 0 99 0 99",
        "seen 0 p 1 4 0 7", "spent 0 p 0 4", "saved 0 p 0 2 0 99", "lasts 0 p 0 d 0 10 0 7 0 1",
        "year 0 9999 1 60 0 1", "count 0 9",
    };

    public static void main(String[] args) throws Exception {
        for (String call : CALLS) {
            everyBound(call, "two and two", 1, 1, Whole::busy);
            everyBound(call, "six and six", 5, 5, BoundsTest::sixAndSix);
            everyBound(call, "two and none", 1, -1, BoundsTest::twoAndNone);
        }
        onePersonCanLendToNobody();
        check.end();
    }

    private static GreyByFriday sixAndSix() {
        return Check.laid("p0,1,2,3;p1,2,3,4;p2,3,4,5;p3,4,5,6;p4,5,6,7;p0,7,8,9;"
                + "d1,0,0,1;d0,1,0,2;d0,0,1,3;d2,0,0,4;d0,2,0,5;d0,0,2,6;h5,6,5;");
    }

    private static GreyByFriday twoAndNone() {
        return Check.laid("p0,1,2,3;p1,9,8,7;");
    }

    private static void everyBound(String row, String street, int person, int deed, Supplier<GreyByFriday> made)
            throws Exception {
        String[] words = row.replaceAll("p\\b", "" + person).replaceAll("d\\b", "" + deed).split(" ");
        // The letters of a call's own name are no bounds.
        words[0] = row.split(" ")[0];
        int numbers = words.length / 2;
        for (int n = 0; n < numbers; n++) {
            int least = Integer.parseInt(words[2 * n + 1]);
            int most = Integer.parseInt(words[2 * n + 2]);
            for (int value : new int[] {least, most}) {
                if (least <= most) {
                    ask(words, n, value, street, made, false);
                }
            }
            for (int value : new int[] {least - 1, most + 1, least - 256, most + 256, most + 65536,
                Integer.MIN_VALUE, Integer.MAX_VALUE, Integer.MIN_VALUE + Math.max(0, least)}) {
                ask(words, n, value, street, made, true);
            }
        }
    }

    /** Puts one number at a bound or beyond it; the others are well inside. */
    private static void ask(String[] words, int place, int value, String street, Supplier<GreyByFriday> made,
            boolean bad) throws Exception {
        Object[] numbers = new Object[words.length / 2];
        Class<?>[] types = new Class<?>[numbers.length];
        for (int n = 0; n < numbers.length; n++) {
            types[n] = int.class;
            numbers[n] = n == place ? value : inside(words, n, place, value);
        }
        boolean deedless = Arrays.asList(words).contains("-1") && street.endsWith("none");
        Method call = GreyByFriday.class.getMethod(words[0], types);
        GreyByFriday x = made.get();
        for (int i = 0; i < x.count(0) && words[0].equals("spent"); i++) {
            x.seen(i, 4, 0);
        }
        String was = Check.state(x);
        int got = (int) call.invoke(x, numbers);
        String label = street + ": " + words[0] + Arrays.toString(numbers);
        boolean expected = bad || deedless && !words[0].equals("best");
        check.due(label + " is bad", got == BAD ? 1 : 0, expected ? 1 : 0);
        if (expected) {
            check.due(label + " changes nothing", Check.state(x), was);
        }
    }

    private static int inside(String[] words, int n, int place, int value) {
        int least = Integer.parseInt(words[2 * n + 1]);
        // Who lends and who gets it are two.
        boolean alike = words[0].equals("lend") && n < 2 && (place < 2 ? value == least : n == 1);
        return alike ? least + 1 : least;
    }

    private static void onePersonCanLendToNobody() {
        GreyByFriday x = Check.laid("p0,9,9,9;");
        for (int j = -1; j <= 1; j++) {
            check.due("one person: lend to " + j, x.lend(0, j, 0, 1), BAD);
        }
    }
}
