/** Counts the answers that are not as due. */
final class Check {
    private final String title;
    private int asked;
    private int wrong;

    Check(String title) {
        this.title = title;
    }

    void due(String call, long got, long want) {
        asked++;
        if (got != want) {
            wrong++;
            System.out.println(title + ": " + call + " answered " + got + ", due is " + want);
        }
    }

    void due(String call, String got, String want) {
        asked++;
        if (!got.equals(want)) {
            wrong++;
            System.out.println(title + ": " + call + " answered " + got + ", due is " + want);
        }
    }

    void end() {
        System.out.println(title + ": " + (asked - wrong) + " passed, " + wrong + " failed");
        if (wrong != 0 || asked == 0) {
            System.exit(1);
        }
    }

    /** A new object whose town is the one that the text tells. */
    static GreyByFriday laid(String text) {
        GreyByFriday x = new GreyByFriday();
        written(x, text);
        if (x.lay() < 1) {
            throw new IllegalArgumentException("can't be laid: " + text);
        }
        return x;
    }

    static void written(GreyByFriday x, String text) {
        x.wipe();
        for (int i = 0; i < text.length(); i++) {
            x.write(text.charAt(i));
        }
    }

    /** All that can be asked of how things stand. */
    static String state(GreyByFriday x) {
        StringBuilder all = new StringBuilder();
        for (int what = 0; what <= 9; what++) {
            all.append(x.count(what)).append(' ');
        }
        for (int i = 0; i < x.count(0); i++) {
            for (int what = 0; what <= 6; what++) {
                all.append(x.person(i, what)).append(' ');
            }
            for (int day = 0; day < 7; day++) {
                all.append(x.told(i, day)).append(' ');
            }
            all.append(x.spent(i, 0)).append(' ');
        }
        for (int k = 0; k < x.count(1); k++) {
            for (int what = 0; what <= 3; what++) {
                all.append(x.deed(k, what)).append(' ');
            }
        }
        return all.append(x.fault()).toString();
    }

    static String thimbles(GreyByFriday x, int i) {
        return x.person(i, 1) + "," + x.person(i, 2) + "," + x.person(i, 3);
    }
}
