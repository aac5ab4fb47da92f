/** Each promise of the document: ordinary inputs, its edges, wrong inputs. Answers worked out by hand. */
public final class PromiseTest {
    private static final int BAD = GreyByFriday.BAD;
    private static final int NO = GreyByFriday.NO;
    private static final int FULL = GreyByFriday.FULL;
    private static final int NONE = GreyByFriday.NONE;
    private static final String FIRST = "p0,3,2,4;p1,4,1,2;p2,2,2,6;p3,1,5,0;d1,0,0,2;d0,1,1,3;d2,0,1,5;"
            + "h0,0,2;h0,2,1;h1,1,0;h2,0,1;h2,3,1;h3,4,1;c2;";
    private static final Check check = new Check("promise");

    public static void main(String[] args) {
        newObject();
        write();
        wipe();
        fault();
        lay();
        person();
        deed();
        told();
        can();
        pass();
        act();
        lend();
        sell();
        levy();
        undo();
        behind();
        grey();
        best();
        lending();
        heap();
        seen();
        forget();
        spent();
        saved();
        lasts();
        year();
        keep();
        back();
        count();
        nothingChanges();
        check.end();
    }

    private static void due(String call, long got, long want) {
        check.due(call, got, want);
    }

    private static void newObject() {
        GreyByFriday x = new GreyByFriday();
        GreyByFriday y = Check.laid(FIRST);
        y.wipe();
        check.due("1 new", Check.state(x), Check.state(y));
        due("1 sell", x.sell(0, 0, 1), 2);
        due("1 undo", new GreyByFriday().undo(), NO);
        due("1 back", new GreyByFriday().back(), NO);
        due("1 lay", new GreyByFriday().lay(), NO);
    }

    private static void write() {
        GreyByFriday x = new GreyByFriday();
        due("2 write(31)", x.write(31), BAD);
        due("2 write(127)", x.write(127), BAD);
        due("2 write(-1)", x.write(-1), BAD);
        due("2 write(32)", x.write(32), 1);
        due("2 write(126)", x.write(126), 2);
        for (int n = 3; n <= 200; n++) {
            due("2 write", x.write('p'), n);
        }
        due("2 full", x.write('p'), FULL);
        due("2 bad ahead of full", x.write(300), BAD);
        due("2 count(9)", x.count(9), 200);
        due("2 fault", x.fault(), 0);
    }

    private static void wipe() {
        GreyByFriday x = new GreyByFriday();
        due("3 empty", x.wipe(), 0);
        x.write('p');
        x.write('0');
        due("3 two", x.wipe(), 2);
        due("3 again", x.wipe(), 0);
        due("3 town stays", x.count(0), 4);
    }

    private static int faultOf(String text) {
        GreyByFriday x = new GreyByFriday();
        Check.written(x, text);
        return x.fault();
    }

    private static void fault() {
        String[] right = {"", FIRST, "c0;c9;", "c09;", "p04,09,00,9;", "d4,4,4,9;", "d0,0,1,0;",
            "p0,0,0,0;d1,0,0,0;h0,6,0;", "p0,1,1,1;d1,0,0,0;h0,0,0;h0,0,0;h00,00,00;"};
        for (String text : right) {
            due("4 fault of " + text, faultOf(text), NONE);
        }
        String[] wrong = {"x1;", "p", "p0", "p0,1,1,1", "p0,1,1;", "p0,1,1,1,1;", "p5,1,1,1;", "p0,10,1,1;",
            "p0,1,10,1;", "p0,1,1,10;", "p0,1,1,;", "p,1,1,1;", "p0,1,1,001;", "p0 ,1,1,1;", "P0,1,1,1;", ";",
            "d0,0,0,5;", "d5,0,0,5;", "d0,5,0,5;", "d0,0,5,5;", "d1,0,0,10;", "d1,0,0;", "d1,0,0,1,",
            "c10;", "c;", "c1,1;", "c-1;", "h0,0,0;", "h0,0;", " c1;", "c1;;", "1;", ",", "c1,"};
        for (String text : wrong) {
            due("4 fault of " + text, faultOf(text), text.equals("c1;;") ? 3 : 0);
            due("4 fault behind c1;", faultOf("c1;" + text), text.equals("c1;;") ? 6 : 3);
        }
        due("4 person told later", faultOf("d1,0,0,0;h0,0,0;p0,0,0,0;"), 9);
        due("4 deed told later", faultOf("p0,0,0,0;h0,0,0;d1,0,0,0;"), 9);
        due("4 day 7", faultOf("p0,0,0,0;d1,0,0,0;h0,7,0;"), 18);
        due("4 seventh person", faultOf("p0,0,0,0;".repeat(7)), 54);
        due("4 six persons", faultOf("p0,0,0,0;".repeat(6)), NONE);
        due("4 seventh deed", faultOf("d1,0,0,0;".repeat(7)), 54);
        due("4 six deeds", faultOf("d1,0,0,0;".repeat(6)), NONE);
        due("4 the first of two", faultOf("c1;c10;x"), 3);
    }

    private static void lay() {
        GreyByFriday x = new GreyByFriday();
        due("5 empty", x.lay(), NO);
        Check.written(x, "d1,0,0,2;c3;");
        due("5 nobody", x.lay(), NO);
        Check.written(x, "p0,1,1,1;p0,1,1,1");
        due("5 fault", x.lay(), NO);
        due("5 as before", x.count(0), 4);
        x.pass(2);
        x.sell(0, 0, 1);
        x.keep();
        x.seen(0, 1, 1);
        Check.written(x, "p4,1,2,3;p1,9,9,9;d1,0,0,2;c3;c5;");
        due("5 two", x.lay(), 2);
        for (int what = 2; what <= 8; what++) {
            due("5 count " + what, x.count(what), what == 4 ? 33 : 0);
        }
        due("5 kind", x.person(0, 0), 4);
        check.due("5 thimbles", Check.thimbles(x, 1), "9,9,9");
        due("5 coins", x.person(0, 5), 0);
        due("5 worth", x.person(0, 6), 0);
        due("5 told", x.told(0, 0), NONE);
        due("5 the last price", x.sell(1, 0, 2), 10);
        due("5 the text stays", x.count(9), 33);
        due("5 again", x.lay(), 2);
        due("5 no coins", x.person(1, 5), 0);
        x = Check.laid("p0,9,9,9;");
        due("5 price without c", x.sell(0, 0, 9), 9);
    }

    private static void person() {
        GreyByFriday x = Check.laid("p0,1,0,2;p3,0,0,0;d1,0,0,7;c4;");
        int[] want = {0, 1, 0, 2, 5, 0, 0};
        for (int what = 0; what <= 6; what++) {
            due("6 person(0, " + what, x.person(0, what), want[what]);
            due("6 person(1, " + what, x.person(1, what), what == 0 ? 3 : 0);
        }
        x.act(0, 0);
        x.sell(0, 2, 2);
        due("6 hue", x.person(0, 4), 0);
        due("6 coins", x.person(0, 5), 8);
        due("6 worth", x.person(0, 6), 7);
        for (int i : new int[] {-1, 2, Integer.MAX_VALUE, Integer.MIN_VALUE}) {
            due("6 person " + i, x.person(i, 0), BAD);
        }
        due("6 what -1", x.person(0, -1), BAD);
        due("6 what 7", x.person(0, 7), BAD);
    }

    private static void deed() {
        GreyByFriday x = Check.laid("p3,9,9,9;d1,2,3,4;d4,0,1,9;");
        for (int what = 0; what <= 3; what++) {
            due("7 deed 0 " + what, x.deed(0, what), what + 1);
        }
        due("7 deed 1", x.deed(1, 3), 9);
        due("7 deed 2", x.deed(2, 0), BAD);
        due("7 deed -1", x.deed(-1, 0), BAD);
        due("7 what 4", x.deed(0, 4), BAD);
        due("7 what -1", x.deed(0, -1), BAD);
    }

    private static void told() {
        GreyByFriday x = Check.laid("p0,1,1,1;p0,1,1,1;d1,0,0,1;d0,1,0,1;h0,3,0;h0,3,1;h1,3,0;h1,6,1;");
        due("8 the last one", x.told(0, 3), 1);
        due("8 another person", x.told(1, 3), 0);
        due("8 Sunday", x.told(1, 6), 1);
        due("8 none", x.told(0, 6), NONE);
        due("8 day 7", x.told(0, 7), BAD);
        due("8 day -1", x.told(0, -1), BAD);
        due("8 person 2", x.told(2, 0), BAD);
        due("8 person -1", x.told(-1, 0), BAD);
    }

    private static void can() {
        GreyByFriday x = Check.laid("p0,1,0,0;p3,0,0,1;p3,0,1,0;p4,0,2,0;p4,0,1,9;d1,0,0,1;d1,0,1,1;d2,0,0,1;d1,1,0,1;");
        due("9 just enough", x.can(0, 0), 1);
        due("9 too few", x.can(0, 1), 0);
        due("9 too few of one", x.can(0, 2), 0);
        due("9 a child pays for one alone", x.can(1, 0), 0);
        due("9 a child pays one less", x.can(1, 1), 1);
        due("9 of the lowest", x.can(2, 3), 1);
        due("9 of the lowest alone", x.can(2, 1), 0);
        due("9 a painter mixes", x.can(3, 0), 1);
        due("9 two too few", x.can(3, 2), 0);
        due("9 one of two sorts", x.can(3, 1), 0);
        due("9 not two left behind the cost", x.can(3, 3), 0);
        due("9 from the third", x.can(4, 3), 1);
        due("9 person 5", x.can(5, 0), BAD);
        due("9 deed 4", x.can(0, 4), BAD);
        due("9 deed -1", x.can(0, -1), BAD);
    }

    private static void pass() {
        GreyByFriday x = Check.laid("p0,5,0,0;p1,5,0,9;p2,1,0,3;d2,0,0,3;h0,0,0;h0,1,0;h0,2,0;h1,6,0;");
        due("10 pass 1", x.pass(1), 1);
        check.due("10 seaside", Check.thimbles(x, 2), "1,0,2");
        due("10 pass 2", x.pass(2), 3);
        check.due("10 who can't does not", Check.thimbles(x, 0), "1,0,0");
        due("10 worth", x.person(0, 6), 6);
        x.pass(3);
        check.due("10 seaside has none", Check.thimbles(x, 2), "1,0,0");
        due("10 a Monday", x.pass(1), 0);
        check.due("10 the rest is gone", Check.thimbles(x, 0), "5,0,0");
        check.due("10 a saver keeps it", Check.thimbles(x, 1), "8,0,18");
        check.due("10 seaside anew", Check.thimbles(x, 2), "1,0,3");
        due("10 pass 30", x.pass(30), 2);
        due("10 days", x.count(3), 37);
        for (int weeks = 0; weeks < 4; weeks++) {
            x.pass(28);
        }
        due("10 at most 99", x.person(1, 3), 99);
        due("10 pass 0", x.pass(0), BAD);
        due("10 pass 31", x.pass(31), BAD);
        due("10 pass -1", x.pass(-1), BAD);
    }

    private static void act() {
        GreyByFriday x = Check.laid("p0,3,0,1;p3,3,1,0;p4,0,4,4;p4,1,3,4;d2,0,1,5;d1,1,0,2;d1,0,0,1;d0,1,2,9;d2,1,1,1;");
        due("11 act", x.act(0, 0), 3);
        check.due("11 left", Check.thimbles(x, 0), "1,0,0");
        due("11 worth", x.person(0, 6), 5);
        due("11 not again", x.act(0, 0), NO);
        due("11 child", x.act(1, 1), 1);
        check.due("11 child left", Check.thimbles(x, 1), "3,0,0");
        due("11 child pays one for one", x.act(1, 2), 1);
        check.due("11 child left", Check.thimbles(x, 1), "2,0,0");
        due("11 painter", x.act(2, 2), 2);
        check.due("11 the lowest of several", Check.thimbles(x, 2), "0,2,4");
        due("11 painter", x.act(2, 1), 3);
        check.due("11 most left behind the cost", Check.thimbles(x, 2), "0,1,2");
        due("11 no need to mix", x.act(2, 3), 3);
        check.due("11 grey", Check.thimbles(x, 2), "0,0,0");
        due("11 painter gives what he has too", x.act(3, 4), 5);
        check.due("11 one of his, two more of blue", Check.thimbles(x, 3), "0,2,1");
        due("11 person", x.act(4, 0), BAD);
        due("11 person -1", x.act(-1, 0), BAD);
        due("11 deed", x.act(0, 5), BAD);
        due("11 deed -1", x.act(0, -1), BAD);
    }

    private static void lend() {
        GreyByFriday x = Check.laid("p1,9,0,5;p0,9,9,9;d1,0,0,1;");
        due("12 lend", x.lend(0, 1, 2, 2), 11);
        due("12 who lent", x.person(0, 3), 3);
        due("12 all", x.lend(0, 1, 2, 3), 14);
        due("12 none left", x.lend(0, 1, 2, 1), NO);
        due("12 alike", x.lend(0, 0, 0, 1), BAD);
        due("12 i", x.lend(2, 0, 0, 1), BAD);
        due("12 j", x.lend(0, 2, 0, 1), BAD);
        due("12 j -1", x.lend(0, -1, 0, 1), BAD);
        due("12 sort", x.lend(0, 1, 3, 1), BAD);
        due("12 sort -1", x.lend(0, 1, -1, 1), BAD);
        due("12 n 0", x.lend(0, 1, 0, 0), BAD);
        due("12 n 100", x.lend(0, 1, 0, 100), BAD);
        due("12 n 99", x.lend(0, 1, 0, 99), NO);
        for (int weeks = 0; weeks < 3; weeks++) {
            x.pass(28);
        }
        due("12 saved", x.person(0, 1), 99);
        due("12 above 99", x.lend(1, 0, 0, 1), FULL);
        due("12 no ahead of full", x.lend(1, 0, 0, 10), NO);
        x.sell(0, 0, 9);
        due("12 just 99", x.lend(1, 0, 0, 9), 99);
    }

    private static void sell() {
        GreyByFriday x = Check.laid("p0,9,1,0;c9;");
        due("13 sell", x.sell(0, 0, 4), 36);
        due("13 all the rest", x.sell(0, 0, 5), 81);
        due("13 another sort", x.sell(0, 1, 1), 90);
        due("13 none", x.sell(0, 2, 1), NO);
        due("13 n 0", x.sell(0, 0, 0), BAD);
        due("13 n 100", x.sell(0, 0, 100), BAD);
        due("13 n 99", x.sell(0, 0, 99), NO);
        due("13 sort", x.sell(0, 3, 1), BAD);
        due("13 sort -1", x.sell(0, -1, 1), BAD);
        due("13 person", x.sell(1, 0, 1), BAD);
        due("13 grey", x.count(5), 1);
        x = Check.laid("p0,9,1,0;c0;");
        due("13 for nothing", x.sell(0, 0, 1), 0);
    }

    private static void levy() {
        GreyByFriday x = Check.laid("p0,3,1,0;p0,5,1,0;p0,5,0,0;");
        due("14 levy", x.levy(0, 4), 4);
        due("14 two each of the richest", x.person(1, 1) * 10 + x.person(2, 1), 33);
        due("14 one", x.levy(0, 1), 1);
        due("14 of several the lowest", x.person(0, 1), 2);
        due("14 yellow", x.levy(1, 1), 1);
        due("14 the lowest", x.person(0, 2), 0);
        due("14 all that is left", x.levy(0, 99), 8);
        due("14 nothing", x.levy(2, 5), 0);
        due("14 n 0", x.levy(0, 0), BAD);
        due("14 n 100", x.levy(0, 100), BAD);
        due("14 sort 3", x.levy(3, 1), BAD);
        due("14 sort -1", x.levy(-1, 1), BAD);
        due("14 no coins", x.person(0, 5), 0);
    }

    private static void undo() {
        GreyByFriday x = Check.laid("p0,9,9,9;p1,1,1,1;d1,1,1,4;h0,0,0;c3;");
        due("15 nothing", x.undo(), NO);
        String[] states = new String[11];
        for (int n = 0; n <= 10; n++) {
            states[n] = Check.state(x);
            switch (n % 5) {
                case 0: x.pass(3); break;
                case 1: x.act(0, 0); break;
                case 2: x.lend(0, 1, 0, 1); break;
                case 3: x.sell(0, 1, 1); break;
                default: x.levy(2, 3); break;
            }
        }
        due("15 eight", x.count(7), 8);
        for (int n = 7; n >= 0; n--) {
            due("15 undo", x.undo(), n);
            String want = states[n + 3];
            check.due("15 as it was", withoutUndone(Check.state(x)), withoutUndone(want));
        }
        due("15 no more", x.undo(), NO);
        due("15 days", x.count(3), 3);
        due("15 act", x.sell(0, 0, 1), 3);
        due("15 one", x.undo(), 0);
        x.pass(5);
        due("15 days that went by together", x.undo(), 0);
        due("15 are undone together", x.count(3), 3);
    }

    private static String withoutUndone(String state) {
        String[] parts = state.split(" ");
        parts[7] = "";
        return String.join(" ", parts);
    }

    private static void behind() {
        GreyByFriday x = Check.laid("p0,3,0,0;p1,9,0,0;p2,0,0,9;d1,0,0,5;h0,0,0;h0,6,0;h1,0,0;");
        due("16 now", x.behind(0, 0, 0), 3);
        due("16 now hue", x.behind(0, 2, 3), 4);
        due("16 worth of none", x.behind(0, 0, 4), 0);
        due("16 red", x.behind(6, 0, 0), 2);
        due("16 behind Sunday", x.behind(7, 0, 0), 3);
        due("16 worth", x.behind(7, 0, 4), 10);
        due("16 saver", x.behind(7, 1, 0), 17);
        due("16 saver, 60 days", x.behind(60, 1, 0), 9 + 8 * 8 - 1);
        due("16 blue", x.behind(6, 2, 2), 3);
        due("16 yellow", x.behind(6, 2, 1), 0);
        due("16 60 worth", x.behind(60, 0, 4), 85);
        x.act(0, 0);
        due("16 only in them", x.behind(1, 0, 4), 5);
        due("16 n 61", x.behind(61, 0, 0), BAD);
        due("16 n -1", x.behind(-1, 0, 0), BAD);
        due("16 person", x.behind(0, 3, 0), BAD);
        due("16 what 5", x.behind(0, 0, 5), BAD);
        due("16 what -1", x.behind(0, 0, -1), BAD);
        due("16 no day went by", x.count(3), 0);
    }

    private static void grey() {
        GreyByFriday x = Check.laid("p0,2,0,0;p2,0,0,7;p0,1,0,0;d1,0,0,5;h2,6,0;");
        due("17 Sunday, ahead of step 3", x.grey(0), 1);
        due("17 the seventh day", x.grey(1), 7);
        x.act(0, 0);
        x.act(0, 0);
        due("17 grey already", x.grey(0), 0);
        due("17 the first day", x.grey(1), 1);
        due("17 what 2", x.grey(2), BAD);
        due("17 what -1", x.grey(-1), BAD);
        x = Check.laid("p0,1,0,0;d1,0,0,5;");
        due("17 none", x.grey(0), NONE);
        due("17 none", x.grey(1), NONE);
        x = Check.laid("p1,9,0,0;d4,0,0,1;h0,0,0;h0,1,0;h0,2,0;h0,3,0;h0,4,0;h0,5,0;h0,6,0;");
        due("17 weeks later", x.grey(1), 24);
        x = Check.laid("p1,8,0,0;d1,0,0,1;h0,0,0;h0,1,0;h0,2,0;h0,3,0;h0,4,0;h0,5,0;h0,6,0;");
        x.sell(0, 0, 1);
        due("17 the first of 60", x.grey(1), 7);
    }

    private static void best() {
        GreyByFriday x = new GreyByFriday();
        due("18 most", x.best(0, -1), 13);
        x = Check.laid("p0,6,6,0;d1,0,0,2;d2,0,0,4;d0,1,0,0;");
        due("18 worth", x.best(0, -1), 12);
        due("18 fewest", x.best(0, 0), 0);
        due("18 fewest", x.best(0, 1), 3);
        due("18 worth nothing", x.best(0, 2), 0);
        x = Check.laid("p0,2,2,0;d0,1,0,3;d1,0,0,3;d1,1,0,6;");
        due("18 fewest of all", x.best(0, 2), 2);
        x = Check.laid("p0,4,0,0;d1,0,0,3;d1,0,0,3;");
        due("18 deed 0 most often", x.best(0, 0), 4);
        due("18 then deed 1", x.best(0, 1), 0);
        x = Check.laid("p0,9,0,0;d1,0,0,3;d1,0,0,3;");
        due("18 at most five times", x.best(0, 0), 5);
        due("18 the rest", x.best(0, 1), 4);
        due("18 worth", x.best(0, -1), 27);
        x = Check.laid("p3,1,0,1;p4,3,0,0;d1,0,1,9;d0,1,0,4;");
        due("18 a child at its cost", x.best(0, 0), 1);
        due("18 a painter mixes", x.best(1, 0), 1);
        due("18 a painter's worth", x.best(1, -1), 9);
        due("18 k -2", x.best(0, -2), BAD);
        due("18 k 2", x.best(0, 2), BAD);
        due("18 person", x.best(2, -1), BAD);
        due("18 person -1", x.best(-1, -1), BAD);
        x = Check.laid("p0,9,9,9;");
        due("18 no deeds", x.best(0, -1), 0);
        due("18 deed 0", x.best(0, 0), BAD);
    }

    private static void lending() {
        GreyByFriday x = Check.laid("p0,0,9,1;p3,0,9,0;p4,0,0,9;p0,4,0,0;d2,0,1,1;d1,0,0,1;h0,0,0;h1,0,0;h2,0,1;");
        due("19 lending", x.lending(), 2 + (1 + 1) + 1);
        x.pass(1);
        due("19 nothing told", x.lending(), 0);
        x.undo();
        x.sell(3, 0, 1);
        due("19 too few", x.lending(), NONE);
        x = Check.laid("p0,3,0,0;p0,0,0,0;d2,0,0,1;h0,0,0;h1,0,0;");
        due("19 who needs his own", x.lending(), NONE);
        x = Check.laid("p0,3,0,0;p0,0,0,0;d2,0,0,1;d1,0,0,1;h0,0,0;h1,0,1;");
        due("19 the rest of his", x.lending(), 1);
        due("19 nothing is lent", x.person(1, 1), 0);
    }

    private static void heap() {
        GreyByFriday x = Check.laid("p0,1,9,0;p0,5,0,0;p0,5,0,3;p0,9,0,0;");
        due("20 nothing", x.heap(0, 0, 0), 0);
        due("20 one", x.heap(5, 0, 0), 2);
        due("20 another one", x.heap(6, 0, 0), 8);
        due("20 two", x.heap(10, 0, 0), 6);
        due("20 blue", x.heap(5, 0, 3), 4);
        due("20 two of them", x.heap(10, 9, 0), 9);
        due("20 three", x.heap(11, 1, 1), 7);
        due("20 all", x.heap(20, 9, 3), 15);
        due("20 none", x.heap(21, 0, 0), NONE);
        due("20 99", x.heap(99, 99, 99), NONE);
        for (int n : new int[] {-1, 100}) {
            due("20 red", x.heap(n, 0, 0), BAD);
            due("20 yellow", x.heap(0, n, 0), BAD);
            due("20 blue", x.heap(0, 0, n), BAD);
        }
    }

    private static void seen() {
        GreyByFriday x = new GreyByFriday();
        due("21 day 0", x.seen(0, 0, 0), BAD);
        due("21 day 5", x.seen(0, 5, 0), BAD);
        due("21 hue -1", x.seen(0, 1, -1), BAD);
        due("21 hue 8", x.seen(0, 1, 8), BAD);
        due("21 person", x.seen(4, 1, 1), BAD);
        due("21 person -1", x.seen(-1, 1, 1), BAD);
        for (int n = 1; n <= 7; n++) {
            due("21 seen", x.seen(n % 4, 1 + n % 4, 7), n);
        }
        due("21 full", x.seen(0, 1, 7), FULL);
        due("21 bad ahead of full", x.seen(0, 9, 7), BAD);
        due("21 count", x.count(6), 7);
        x.pass(1);
        x.undo();
        x.keep();
        x.back();
        due("21 stays", x.count(6), 7);
    }

    private static void forget() {
        GreyByFriday x = new GreyByFriday();
        due("22 none", x.forget(), 0);
        x.seen(0, 1, 0);
        x.seen(1, 1, 0);
        due("22 two", x.forget(), 2);
        due("22 gone", x.count(6), 0);
        due("22 any way", x.spent(0, 0), 1);
    }

    private static void spent() {
        GreyByFriday x = Check.laid("p0,2,1,0;p2,0,0,3;d1,0,0,1;d0,1,0,1;d2,0,0,1;");
        due("23 nothing seen", x.spent(0, 0), 1);
        due("23 no day", x.spent(0, 1), BAD);
        x.seen(0, 2, 2);
        due("23 ways", x.spent(0, 0), 3);
        due("23 none ahead", x.spent(0, 1), NONE);
        due("23 then two", x.spent(0, 2), 2);
        x.seen(0, 1, 3);
        due("23 ways", x.spent(0, 0), 2);
        x.forget();
        x.seen(0, 2, 0);
        due("23 first", x.spent(0, 0), 2);
        due("23 yellow first", x.spent(0, 1), 1);
        due("23 all red then", x.spent(0, 2), 2);
        due("23 no more days", x.spent(0, 3), BAD);
        due("23 k -1", x.spent(0, -1), BAD);
        due("23 person", x.spent(2, 0), BAD);
        due("23 another's", x.spent(1, 1), BAD);
        x.seen(1, 3, 0);
        due("23 seaside", x.spent(1, 0), 1);
        due("23 no deed", x.spent(1, 3), NONE);
        x.seen(1, 4, 1);
        due("23 no way", x.spent(1, 0), 0);
        due("23 no way", x.spent(1, 4), NONE);
        x.forget();
        x.pass(6);
        x.seen(0, 1, 0);
        due("23 ahead of step 3", x.spent(0, 0), 0);
        x.forget();
        x.seen(0, 1, 2);
        x.seen(0, 2, 3);
        due("23 a ration between", x.spent(0, 0), 2);
        due("23 all red", x.spent(0, 1), 2);
        due("23 none", x.spent(0, 2), NONE);
        due("23 no thimble went", x.person(0, 1), 2);
    }

    private static void saved() {
        GreyByFriday x = Check.laid("p1,2,0,9;p0,5,0,0;p2,0,0,4;d1,0,0,1;h0,0,0;");
        due("24 now", x.saved(0, 0, 2), 0);
        due("24 nothing", x.saved(0, 1, 0), 0);
        due("24 one week", x.saved(0, 0, 3), 1);
        due("24 49 weeks", x.saved(0, 0, 99), 49);
        due("24 blue", x.saved(0, 2, 99), 10);
        due("24 never", x.saved(0, 1, 1), NONE);
        due("24 who can't save", x.saved(1, 0, 6), NONE);
        x.act(1, 0);
        due("24 anew", x.saved(1, 0, 5), 1);
        due("24 still", x.saved(1, 0, 4), 0);
        x.pass(1);
        due("24 seaside", x.saved(2, 2, 4), 1);
        due("24 seaside now", x.saved(2, 2, 3), 0);
        due("24 after a deed", x.saved(0, 0, 99), 49);
        x = Check.laid("p1,1,0,0;d1,0,0,1;");
        due("24 50 weeks", x.saved(0, 0, 51), 50);
        due("24 51 weeks", x.saved(0, 0, 52), NONE);
        due("24 n 100", x.saved(0, 0, 100), BAD);
        due("24 n -1", x.saved(0, 0, -1), BAD);
        due("24 sort", x.saved(0, 3, 0), BAD);
        due("24 person", x.saved(1, 0, 0), BAD);
    }

    private static void lasts() {
        GreyByFriday x = Check.laid("p0,2,0,0;p4,1,4,0;p3,2,0,0;d1,0,0,1;d2,0,0,1;");
        due("25 above", x.lasts(0, 0, 5, 3, 0), 7);
        due("25 below", x.lasts(0, 0, 5, 3, 1), 8);
        due("25 above", x.lasts(0, 1, 3, 2, 0), 91);
        due("25 below", x.lasts(0, 1, 3, 2, 1), 100);
        due("25 painter", x.lasts(1, 0, 10, 3, 0), 1);
        due("25 painter", x.lasts(1, 0, 10, 4, 0), 0);
        due("25 never", x.lasts(1, 0, 10, 4, 1), 1);
        due("25 child", x.lasts(2, 1, 10, 2, 0), 1);
        due("25 no time", x.lasts(0, 0, 10, 0, 0), 1);
        due("25 no time", x.lasts(0, 0, 10, 0, 1), 1);
        due("25 not wanted", x.lasts(0, 0, 0, 7, 0), 1);
        due("25 nine of ten", x.lasts(0, 0, 9, 7, 0), (1 + 7 * 9 + 21 * 81) / 5);
        due("25 nine of ten", x.lasts(0, 0, 9, 7, 1), 10000000 / 5);
        due("25 16 times 9^6", x.lasts(0, 1, 1, 7, 0), 531441);
        due("25 16 times 9^6", x.lasts(0, 1, 1, 7, 1), 625000);
        due("25 x 11", x.lasts(0, 0, 11, 1, 0), BAD);
        due("25 x -1", x.lasts(0, 0, -1, 1, 0), BAD);
        due("25 n 8", x.lasts(0, 0, 1, 8, 0), BAD);
        due("25 n -1", x.lasts(0, 0, 1, -1, 0), BAD);
        due("25 part 2", x.lasts(0, 0, 1, 1, 2), BAD);
        due("25 part -1", x.lasts(0, 0, 1, 1, -1), BAD);
        due("25 person", x.lasts(3, 0, 1, 1, 0), BAD);
        due("25 deed", x.lasts(0, 2, 1, 1, 0), BAD);
    }

    private static void year() {
        GreyByFriday x = new GreyByFriday();
        due("26 grey", x.year(5, 60, 0), 3);
        due("26 worth", x.year(5, 60, 1), 257);
        // Of one DEED an even DRAW is the DEED, an odd one none.
        x = Check.laid("p0,9,0,0;p0,0,0,0;d1,0,0,4;h0,0,0;");
        due("26 day 0: draw 0", x.year(0, 1, 1), 4);
        due("26 one is grey", x.year(0, 1, 0), 1);
        due("26 each day", x.year(0, 9, 0), 9);
        due("26 day 1: draw " + draw(6152), x.year(0, 2, 1), draw(6152) % 2 == 0 ? 8 : 4);
        due("26 a large z", x.year(9999, 1, 1), draw(7919L * 9999 + 1) % 2 == 0 ? 4 : 0);
        x = Check.laid("p0,0,0,0;p0,0,0,0;");
        due("26 two are grey", x.year(1, 60, 0), 120);
        due("26 no deeds", x.year(1, 60, 1), 0);
        due("26 z -1", x.year(-1, 1, 0), BAD);
        due("26 z 10000", x.year(10000, 1, 0), BAD);
        due("26 n 0", x.year(0, 0, 0), BAD);
        due("26 n 61", x.year(0, 61, 0), BAD);
        due("26 what 2", x.year(0, 1, 2), BAD);
        due("26 what -1", x.year(0, 1, -1), BAD);
        due("26 no day went by", x.count(3), 0);
    }

    private static long draw(long x) {
        return x * x % 65521 / 8;
    }

    private static void keep() {
        GreyByFriday x = new GreyByFriday();
        due("27 one", x.keep(), 1);
        x.pass(1);
        due("27 two", x.keep(), 2);
        due("27 full", x.keep(), FULL);
        due("27 count", x.count(8), 2);
        due("27 can be undone still", x.undo(), 0);
    }

    private static void back() {
        GreyByFriday x = new GreyByFriday();
        due("28 none", x.back(), NO);
        x.sell(0, 0, 1);
        x.keep();
        String first = Check.state(x);
        x.pass(9);
        x.act(1, 0);
        x.keep();
        String second = Check.state(x);
        x.pass(1);
        x.levy(0, 9);
        due("28 back", x.back(), 1);
        due("28 nothing is undone", x.count(7), 0);
        due("28 nor can be", x.undo(), NO);
        check.due("28 the last", kept(x), kept(second));
        x.pass(3);
        due("28 again", x.back(), 0);
        check.due("28 the first", kept(x), kept(first));
        due("28 no more", x.back(), NO);
        due("28 room again", x.keep(), 1);
    }

    private static String kept(GreyByFriday x) {
        return kept(Check.state(x));
    }

    private static String kept(String state) {
        String[] parts = state.split(" ");
        parts[7] = "";
        parts[8] = "";
        return String.join(" ", parts);
    }

    private static void count() {
        GreyByFriday x = Check.laid("p0,1,0,0;p0,0,0,0;p1,9,9,9;d1,0,0,1;d0,1,0,1;");
        x.pass(9);
        x.act(0, 0);
        x.keep();
        x.seen(0, 1, 0);
        int[] want = {3, 2, 2, 9, 54, 2, 1, 2, 1, 45};
        for (int what = 0; what <= 9; what++) {
            due("29 count(" + what + ")", x.count(what), want[what]);
        }
        due("29 10", x.count(10), BAD);
        due("29 -1", x.count(-1), BAD);
    }

    /** Calls that are refused, and calls that only ask, leave all as it was. */
    private static void nothingChanges() {
        GreyByFriday x = new GreyByFriday();
        Check.written(x, "p0,1,1,1;x");
        x.pass(3);
        x.sell(2, 0, 1);
        x.keep();
        x.seen(0, 2, 7);
        String was = Check.state(x);
        x.write(31);
        x.lay();
        x.pass(0);
        x.pass(31);
        x.act(3, 1);
        x.act(9, 0);
        x.lend(3, 0, 2, 1);
        x.lend(0, 0, 0, 1);
        x.sell(3, 2, 1);
        x.sell(0, 0, 0);
        x.levy(3, 1);
        x.seen(0, 5, 1);
        check.due("refused", Check.state(x), was);
        x.behind(60, 0, 0);
        x.grey(0);
        x.best(0, -1);
        x.lending();
        x.heap(5, 5, 5);
        x.spent(0, 0);
        x.saved(1, 0, 99);
        x.lasts(0, 0, 5, 7, 0);
        x.year(77, 60, 0);
        x.can(3, 2);
        check.due("only asked", Check.state(x), was);
    }
}
