/** A town in which colour is rationed by the week; the rules stand in DOC.md. */
public final class GreyByFriday {
    public static final int BAD = -1, NO = -2, FULL = -3, NONE = -4;

    private static final int SORTS = 3;
    private static final int BLUE = 2;
    private static final int WEEK = 7;
    private static final int MOST_PERSONS = 6;
    private static final int MOST_DEEDS = 6;
    private static final int MOST_THIMBLES = 99;
    private static final int MOST_DAYS = 60;
    private static final int MOST_MONDAYS = 50;
    private static final int MOST_UNDONE = 8;
    private static final int MOST_KEPT = 2;

    private static final String FIRST_TEXT =
            "p0,3,2,4;p1,4,1,2;p2,2,2,6;p3,1,5,0;d1,0,0,2;d0,1,1,3;d2,0,1,5;h0,0,2;h0,2,1;h1,1,0;h2,0,1;h2,3,1;h3,4,1;c2;";

    private final Paper paper;
    private Town town;
    private Town draft;
    private final Street now;
    private final Street trial;
    private final Shelf done;
    private final Shelf kept;
    private final Chooser chooser;
    private final Witness witness;
    private final int[] purse;

    public GreyByFriday() {
        paper = new Paper();
        town = new Town();
        draft = new Town();
        now = new Street();
        trial = new Street();
        done = new Shelf(MOST_UNDONE);
        kept = new Shelf(MOST_KEPT);
        chooser = new Chooser();
        witness = new Witness();
        purse = new int[SORTS];
        for (int i = 0; i < FIRST_TEXT.length(); i++) {
            paper.add(FIRST_TEXT.charAt(i));
        }
        paper.firstFault(town);
        paper.length = 0;
        now.begin(town);
    }

    // ---- streets

    public int write(int letter) {
        if (!within(letter, 32, 126)) {
            return BAD;
        }
        return paper.add(letter) ? paper.length : FULL;
    }

    public int wipe() {
        int was = paper.length;
        paper.length = 0;
        return was;
    }

    public int fault() {
        return paper.firstFault(draft);
    }

    public int lay() {
        if (paper.firstFault(draft) != NONE || draft.persons == 0) {
            return NO;
        }
        Town old = town;
        town = draft;
        draft = old;
        now.begin(town);
        done.size = 0;
        kept.size = 0;
        witness.size = 0;
        return town.persons;
    }

    public int person(int i, int what) {
        if (!isPerson(i) || !within(what, 0, 6)) {
            return BAD;
        }
        switch (what) {
            case 0: return town.kinds[i];
            case 4: return now.hue(i);
            case 5: return now.coins[i];
            case 6: return now.worth[i];
            default: return now.thimbles[i * SORTS + what - 1];
        }
    }

    public int deed(int k, int what) {
        if (!isDeed(k) || !within(what, 0, 3)) {
            return BAD;
        }
        return what == 3 ? town.worths[k] : town.costs[k * SORTS + what];
    }

    public int told(int i, int day) {
        if (!isPerson(i) || !within(day, 0, WEEK - 1)) {
            return BAD;
        }
        return town.plan[i * WEEK + day];
    }

    public int can(int i, int k) {
        if (!isPerson(i) || !isDeed(k)) {
            return BAD;
        }
        return town.affords(i, k, now.thimbles, i * SORTS) ? 1 : 0;
    }

    // ---- days

    public int pass(int n) {
        if (!within(n, 1, 30)) {
            return BAD;
        }
        done.put(now);
        now.passDays(town, n);
        return now.weekday();
    }

    public int act(int i, int k) {
        if (!isPerson(i) || !isDeed(k)) {
            return BAD;
        }
        if (!town.affords(i, k, now.thimbles, i * SORTS)) {
            return NO;
        }
        done.put(now);
        return now.perform(town, i, k);
    }

    public int lend(int i, int j, int sort, int n) {
        if (!isPerson(i) || !isPerson(j) || i == j || !isSort(sort) || !within(n, 1, 99)) {
            return BAD;
        }
        int from = i * SORTS + sort;
        int to = j * SORTS + sort;
        if (now.thimbles[from] < n) {
            return NO;
        }
        if (now.thimbles[to] + n > MOST_THIMBLES) {
            return FULL;
        }
        done.put(now);
        now.thimbles[from] -= n;
        now.thimbles[to] += n;
        return now.thimbles[to];
    }

    public int sell(int i, int sort, int n) {
        if (!isPerson(i) || !isSort(sort) || !within(n, 1, 99)) {
            return BAD;
        }
        int from = i * SORTS + sort;
        if (now.thimbles[from] < n) {
            return NO;
        }
        done.put(now);
        now.thimbles[from] -= n;
        now.coins[i] += n * town.price;
        return now.coins[i];
    }

    public int levy(int sort, int n) {
        if (!isSort(sort) || !within(n, 1, 99)) {
            return BAD;
        }
        done.put(now);
        int taken = 0;
        while (taken < n && now.takeFromRichest(town, sort)) {
            taken++;
        }
        return taken;
    }

    public int undo() {
        return done.takeLast(now) ? done.size : NO;
    }

    // ---- what comes

    public int behind(int n, int i, int what) {
        if (!within(n, 0, MOST_DAYS) || !isPerson(i) || !within(what, 0, 4)) {
            return BAD;
        }
        trial.copyFrom(now);
        trial.passDays(town, n);
        switch (what) {
            case 3: return trial.hue(i);
            case 4: return trial.worth[i] - now.worth[i];
            default: return trial.thimbles[i * SORTS + what];
        }
    }

    public int grey(int what) {
        if (!within(what, 0, 1)) {
            return BAD;
        }
        trial.copyFrom(now);
        for (int day = 1; day <= MOST_DAYS; day++) {
            trial.doTold(town);
            trial.fade(town);
            int who = trial.firstGrey(town);
            if (who != NONE) {
                return what == 0 ? who : day;
            }
            trial.endDay(town);
        }
        return NONE;
    }

    public int best(int i, int k) {
        if (!isPerson(i) || k < -1 || k >= town.deeds) {
            return BAD;
        }
        chooser.choose(town, i, now);
        return k < 0 ? chooser.bestWorth : chooser.bestTimes[k];
    }

    public int lending() {
        int lent = 0;
        for (int sort = 0; sort < SORTS; sort++) {
            int spare = 0;
            for (int i = 0; i < town.persons; i++) {
                int left = now.thimbles[i * SORTS + sort] - needToday(i, sort);
                spare += left;
                lent += left < 0 ? -left : 0;
            }
            if (spare < 0) {
                return NONE;
            }
        }
        return lent;
    }

    public int heap(int red, int yellow, int blue) {
        if (!within(red, 0, 99) || !within(yellow, 0, 99) || !within(blue, 0, 99)) {
            return BAD;
        }
        int lowest = NONE;
        int fewest = MOST_PERSONS + 1;
        for (int set = 0; set < 1 << town.persons; set++) {
            int size = Integer.bitCount(set);
            if (size < fewest && sumOf(set, 0) >= red && sumOf(set, 1) >= yellow
                    && sumOf(set, BLUE) >= blue) {
                lowest = set;
                fewest = size;
            }
        }
        return lowest;
    }

    // ---- what was

    public int seen(int i, int day, int hue) {
        if (!isPerson(i) || !within(day, 1, Witness.MOST_AHEAD) || !within(hue, 0, 7)) {
            return BAD;
        }
        return witness.add(i, day, hue) ? witness.size : FULL;
    }

    public int forget() {
        int were = witness.size;
        witness.size = 0;
        return were;
    }

    public int spent(int i, int k) {
        if (!isPerson(i) || k < 0 || k > witness.lastDay(i)) {
            return BAD;
        }
        witness.recall(town, i, now);
        if (k == 0) {
            return witness.ways;
        }
        return witness.ways == 0 ? NONE : witness.first[k - 1];
    }

    public int saved(int i, int sort, int n) {
        if (!isPerson(i) || !isSort(sort) || !within(n, 0, 99)) {
            return BAD;
        }
        System.arraycopy(now.thimbles, i * SORTS, purse, 0, SORTS);
        for (int monday = 0; monday <= MOST_MONDAYS; monday++) {
            if (purse[sort] >= n) {
                return monday;
            }
            // Only a SAVER keeps anything, so what a SEASIDE one loses in between is no matter.
            town.renew(i, purse, 0);
        }
        return NONE;
    }

    public int lasts(int i, int k, int x, int n, int part) {
        if (!isPerson(i) || !isDeed(k) || !within(x, 0, 10) || !within(n, 0, 7)
                || !within(part, 0, 1)) {
            return BAD;
        }
        int times = timesInARow(i, k, n);
        long above = 0;
        for (int wanted = 0; wanted <= times; wanted++) {
            above += choose(n, wanted) * power(x, wanted) * power(10 - x, n - wanted);
        }
        long below = power(10, n);
        return (int) ((part == 0 ? above : below) / commonDivisor(above, below));
    }

    public int year(int z, int n, int what) {
        if (!within(z, 0, 9999) || !within(n, 1, MOST_DAYS) || !within(what, 0, 1)) {
            return BAD;
        }
        trial.copyFrom(now);
        int greys = 0;
        for (int k = 0; k < n; k++) {
            trial.doDrawn(town, z, k);
            trial.fade(town);
            greys += trial.countGrey(town);
            trial.endDay(town);
        }
        return what == 0 ? greys : trial.worthOfAll(town) - now.worthOfAll(town);
    }

    public int keep() {
        if (kept.size >= MOST_KEPT) {
            return FULL;
        }
        kept.put(now);
        return kept.size;
    }

    public int back() {
        if (!kept.takeLast(now)) {
            return NO;
        }
        done.size = 0;
        return kept.size;
    }

    public int count(int what) {
        switch (what) {
            case 0: return town.persons;
            case 1: return town.deeds;
            case 2: return now.weekday();
            case 3: return now.days;
            case 4: return now.thimblesOfAll(town);
            case 5: return now.countGrey(town);
            case 6: return witness.size;
            case 7: return done.size;
            case 8: return kept.size;
            case 9: return paper.length;
            default: return BAD;
        }
    }

    private boolean isPerson(int i) {
        return within(i, 0, town.persons - 1);
    }

    private boolean isDeed(int k) {
        return within(k, 0, town.deeds - 1);
    }

    private static boolean isSort(int sort) {
        return within(sort, 0, SORTS - 1);
    }

    private static boolean within(int number, int low, int high) {
        return number >= low && number <= high;
    }

    private int needToday(int i, int sort) {
        int k = town.plan[i * WEEK + now.weekday()];
        if (k < 0) {
            return 0;
        }
        town.writeBill(i, k);
        return town.bill[sort];
    }

    private int sumOf(int set, int sort) {
        int sum = 0;
        for (int i = 0; i < town.persons; i++) {
            sum += (set >> i & 1) * now.thimbles[i * SORTS + sort];
        }
        return sum;
    }

    private int timesInARow(int i, int k, int most) {
        System.arraycopy(now.thimbles, i * SORTS, purse, 0, SORTS);
        int times = 0;
        while (times < most && town.affords(i, k, purse, 0)) {
            town.pay(purse, 0);
            times++;
        }
        return times;
    }

    private static long power(int base, int exponent) {
        long product = 1;
        for (int i = 0; i < exponent; i++) {
            product *= base;
        }
        return product;
    }

    private static long choose(int n, int some) {
        long ways = 1;
        for (int i = 1; i <= some; i++) {
            ways = ways * (n - some + i) / i;
        }
        return ways;
    }

    private static long commonDivisor(long a, long b) {
        long large = a;
        long small = b;
        for (int step = 0; step < 100 && small != 0; step++) {
            long rest = large % small;
            large = small;
            small = rest;
        }
        return Math.max(1, large);
    }

    private static int hueOf(int[] from, int at) {
        int hue = 0;
        for (int sort = 0; sort < SORTS; sort++) {
            if (from[at + sort] > 0) {
                hue |= 1 << sort;
            }
        }
        return hue;
    }

    /** THE TEXT, and how it is read. */
    private static final class Paper {
        static final int LONGEST = 200;

        final int[] letters = new int[LONGEST];
        final int[] numbers = new int[4];
        int length;
        int place;

        boolean add(int letter) {
            if (length >= LONGEST) {
                return false;
            }
            letters[length] = letter;
            length++;
            return true;
        }

        /** Reads the text into a town: the place of the first fault, or NONE. */
        int firstFault(Town into) {
            into.empty();
            place = 0;
            for (int items = 0; items < LONGEST && place < length; items++) {
                int start = place;
                if (!readItem(into)) {
                    return start;
                }
            }
            return NONE;
        }

        private boolean readItem(Town into) {
            int letter = readLetter();
            int wanted = numbersBehind(letter);
            for (int n = 0; n < wanted; n++) {
                numbers[n] = readNumber();
                int end = n == wanted - 1 ? ';' : ',';
                if (numbers[n] < 0 || readLetter() != end) {
                    return false;
                }
            }
            return into.take(letter, numbers);
        }

        private static int numbersBehind(int letter) {
            switch (letter) {
                case 'p':
                case 'd': return 4;
                case 'h': return 3;
                case 'c': return 1;
                default: return 0;
            }
        }

        private int readLetter() {
            if (place >= length) {
                return NONE;
            }
            place++;
            return letters[place - 1];
        }

        private int readNumber() {
            int value = NONE;
            for (int figures = 0; figures < 2 && place < length; figures++) {
                int letter = letters[place];
                if (!within(letter, '0', '9')) {
                    break;
                }
                value = (figures == 0 ? 0 : value * 10) + letter - '0';
                place++;
            }
            return value;
        }
    }

    /** What a text tells: it stays as it is while days go by. */
    private static final class Town {
        static final int SAVER = 1, SEASIDE = 2, CHILD = 3, PAINTER = 4;

        final int[] kinds = new int[MOST_PERSONS];
        final int[] rations = new int[MOST_PERSONS * SORTS];
        final int[] costs = new int[MOST_DEEDS * SORTS];
        final int[] worths = new int[MOST_DEEDS];
        final int[] plan = new int[MOST_PERSONS * WEEK];
        final int[] bill = new int[SORTS];
        int persons;
        int deeds;
        int price;

        void empty() {
            persons = 0;
            deeds = 0;
            price = 1;
            for (int i = 0; i < plan.length; i++) {
                plan[i] = NONE;
            }
        }

        boolean take(int letter, int[] numbers) {
            switch (letter) {
                case 'p': return takePerson(numbers);
                case 'd': return takeDeed(numbers);
                case 'h': return takeHabit(numbers);
                case 'c': return takePrice(numbers);
                default: return false;
            }
        }

        private boolean takePerson(int[] numbers) {
            if (persons >= MOST_PERSONS || numbers[0] > PAINTER || !eachUpTo(9, numbers, 1)) {
                return false;
            }
            kinds[persons] = numbers[0];
            System.arraycopy(numbers, 1, rations, persons * SORTS, SORTS);
            persons++;
            return true;
        }

        private boolean takeDeed(int[] numbers) {
            if (deeds >= MOST_DEEDS || !eachUpTo(4, numbers, 0) || numbers[3] > 9
                    || numbers[0] + numbers[1] + numbers[2] < 1) {
                return false;
            }
            System.arraycopy(numbers, 0, costs, deeds * SORTS, SORTS);
            worths[deeds] = numbers[3];
            deeds++;
            return true;
        }

        private boolean takeHabit(int[] numbers) {
            if (numbers[0] >= persons || numbers[1] >= WEEK || numbers[2] >= deeds) {
                return false;
            }
            plan[numbers[0] * WEEK + numbers[1]] = numbers[2];
            return true;
        }

        private boolean takePrice(int[] numbers) {
            if (numbers[0] > 9) {
                return false;
            }
            price = numbers[0];
            return true;
        }

        private static boolean eachUpTo(int most, int[] numbers, int at) {
            for (int sort = 0; sort < SORTS; sort++) {
                if (numbers[at + sort] > most) {
                    return false;
                }
            }
            return true;
        }

        /** Writes the bill of a DEED without what a PAINTER mixes, which hangs on what he has. */
        void writeBill(int i, int k) {
            System.arraycopy(costs, k * SORTS, bill, 0, SORTS);
            if (kinds[i] != CHILD || billSum() <= 1) {
                return;
            }
            for (int sort = 0; sort < SORTS; sort++) {
                if (bill[sort] > 0) {
                    bill[sort]--;
                    return;
                }
            }
        }

        /** Whether a PERSON can do a DEED with these thimbles; if so, the bill is ready to be paid. */
        boolean affords(int i, int k, int[] from, int at) {
            writeBill(i, k);
            int lacking = 0;
            int scarce = 0;
            for (int sort = 0; sort < SORTS; sort++) {
                int lack = bill[sort] - from[at + sort];
                if (lack > 0) {
                    lacking += lack;
                    scarce = sort;
                }
            }
            if (lacking == 0) {
                return true;
            }
            return lacking == 1 && kinds[i] == PAINTER && mix(from, at, scarce);
        }

        private boolean mix(int[] from, int at, int scarce) {
            bill[scarce]--;
            int rich = 0;
            for (int sort = 1; sort < SORTS; sort++) {
                if (from[at + sort] - bill[sort] > from[at + rich] - bill[rich]) {
                    rich = sort;
                }
            }
            if (from[at + rich] - bill[rich] < 2) {
                return false;
            }
            bill[rich] += 2;
            return true;
        }

        int billSum() {
            return bill[0] + bill[1] + bill[2];
        }

        void pay(int[] from, int at) {
            for (int sort = 0; sort < SORTS; sort++) {
                from[at + sort] -= bill[sort];
            }
        }

        /** Step 2 of a DAY for one PERSON. */
        void fade(int i, int[] from, int at) {
            if (kinds[i] == SEASIDE && from[at + BLUE] > 0) {
                from[at + BLUE]--;
            }
        }

        /** Step 3 of a Sunday for one PERSON. */
        void renew(int i, int[] from, int at) {
            for (int sort = 0; sort < SORTS; sort++) {
                int left = kinds[i] == SAVER ? from[at + sort] : 0;
                from[at + sort] = Math.min(MOST_THIMBLES, left + rations[i * SORTS + sort]);
            }
        }
    }

    /** How things stand on a day: thimbles, coins, what DEEDS were worth. */
    private static final class Street {
        final int[] thimbles = new int[MOST_PERSONS * SORTS];
        final int[] coins = new int[MOST_PERSONS];
        final int[] worth = new int[MOST_PERSONS];
        int days;

        void begin(Town town) {
            days = 0;
            System.arraycopy(town.rations, 0, thimbles, 0, thimbles.length);
            for (int i = 0; i < MOST_PERSONS; i++) {
                coins[i] = 0;
                worth[i] = 0;
            }
        }

        void copyFrom(Street other) {
            System.arraycopy(other.thimbles, 0, thimbles, 0, thimbles.length);
            System.arraycopy(other.coins, 0, coins, 0, coins.length);
            System.arraycopy(other.worth, 0, worth, 0, worth.length);
            days = other.days;
        }

        int weekday() {
            return days % WEEK;
        }

        int hue(int i) {
            return hueOf(thimbles, i * SORTS);
        }

        /** Does a DEED: how many thimbles it cost, or NO. */
        int perform(Town town, int i, int k) {
            if (!town.affords(i, k, thimbles, i * SORTS)) {
                return NO;
            }
            town.pay(thimbles, i * SORTS);
            worth[i] += town.worths[k];
            return town.billSum();
        }

        void passDays(Town town, int n) {
            for (int day = 0; day < n; day++) {
                doTold(town);
                fade(town);
                endDay(town);
            }
        }

        void doTold(Town town) {
            for (int i = 0; i < town.persons; i++) {
                int k = town.plan[i * WEEK + weekday()];
                if (k >= 0) {
                    perform(town, i, k);
                }
            }
        }

        void doDrawn(Town town, int z, int day) {
            for (int i = 0; i < town.persons; i++) {
                int k = draw(z, day, i) % (town.deeds + 1);
                if (k < town.deeds) {
                    perform(town, i, k);
                }
            }
        }

        private static int draw(int z, int day, int i) {
            long x = 7919L * z + 6151L * day + 331L * i + 1;
            return (int) (x * x % 65521 / 8);
        }

        void fade(Town town) {
            for (int i = 0; i < town.persons; i++) {
                town.fade(i, thimbles, i * SORTS);
            }
        }

        void endDay(Town town) {
            if (weekday() == WEEK - 1) {
                for (int i = 0; i < town.persons; i++) {
                    town.renew(i, thimbles, i * SORTS);
                }
            }
            days++;
        }

        int firstGrey(Town town) {
            for (int i = 0; i < town.persons; i++) {
                if (hue(i) == 0) {
                    return i;
                }
            }
            return NONE;
        }

        int countGrey(Town town) {
            int greys = 0;
            for (int i = 0; i < town.persons; i++) {
                greys += hue(i) == 0 ? 1 : 0;
            }
            return greys;
        }

        int worthOfAll(Town town) {
            int sum = 0;
            for (int i = 0; i < town.persons; i++) {
                sum += worth[i];
            }
            return sum;
        }

        int thimblesOfAll(Town town) {
            int sum = 0;
            for (int at = 0; at < town.persons * SORTS; at++) {
                sum += thimbles[at];
            }
            return sum;
        }

        /** Takes a thimble from who has most of the SORT: whether anybody had one. */
        boolean takeFromRichest(Town town, int sort) {
            int most = sort;
            for (int i = 1; i < town.persons; i++) {
                if (thimbles[i * SORTS + sort] > thimbles[most]) {
                    most = i * SORTS + sort;
                }
            }
            if (thimbles[most] == 0) {
                return false;
            }
            thimbles[most]--;
            return true;
        }
    }

    /** Streets as they were, the last on top; the oldest makes room when it is full. */
    private static final class Shelf {
        final Street[] slots;
        int newest;
        int size;

        Shelf(int room) {
            slots = new Street[Math.max(1, room)];
            for (int i = 0; i < slots.length; i++) {
                slots[i] = new Street();
            }
        }

        void put(Street street) {
            newest = (newest + 1) % slots.length;
            slots[newest].copyFrom(street);
            size = Math.min(slots.length, size + 1);
        }

        boolean takeLast(Street into) {
            if (size == 0) {
                return false;
            }
            into.copyFrom(slots[newest]);
            newest = (newest + slots.length - 1) % slots.length;
            size--;
            return true;
        }
    }

    /** Finds the BEST way for a PERSON to do DEEDS. */
    private static final class Chooser {
        static final int MOST_TIMES = 5;
        static final int ROW = (MOST_TIMES + 1) * SORTS;

        // For each DEED what is left behind 0, 1, .. times; behind the last one what he has at first.
        final int[] left = new int[MOST_DEEDS * ROW + SORTS];
        final int[] times = new int[MOST_DEEDS];
        final int[] bestTimes = new int[MOST_DEEDS];
        final int[] hope = new int[MOST_DEEDS + 1];
        int bestWorth;
        int bestSize;

        void choose(Town town, int i, Street now) {
            bestWorth = -1;
            bestSize = 0;
            hope[town.deeds] = 0;
            for (int k = town.deeds - 1; k >= 0; k--) {
                hope[k] = hope[k + 1] + MOST_TIMES * town.worths[k];
            }
            System.arraycopy(now.thimbles, i * SORTS, left, MOST_DEEDS * ROW, SORTS);
            search(town, i, 0, MOST_DEEDS * ROW, 0, 0);
        }

        private void search(Town town, int i, int k, int at, int worth, int size) {
            if (!isBetter(worth + hope[k], size)) {
                return;
            }
            if (k >= town.deeds) {
                bestWorth = worth;
                bestSize = size;
                System.arraycopy(times, 0, bestTimes, 0, MOST_DEEDS);
                return;
            }
            // Most often first: of ways that are alike the first one found is then the right one.
            for (int n = repeat(town, i, k, at); n >= 0; n--) {
                times[k] = n;
                search(town, i, k + 1, k * ROW + n * SORTS, worth + n * town.worths[k], size + n);
            }
        }

        private boolean isBetter(int worth, int size) {
            return worth > bestWorth || worth == bestWorth && size < bestSize;
        }

        /** Does a DEED again and again: how often it went. */
        private int repeat(Town town, int i, int k, int at) {
            int row = k * ROW;
            System.arraycopy(left, at, left, row, SORTS);
            for (int n = 0; n < MOST_TIMES; n++) {
                if (!town.affords(i, k, left, row)) {
                    return n;
                }
                System.arraycopy(left, row, left, row + SORTS, SORTS);
                row += SORTS;
                town.pay(left, row);
            }
            return MOST_TIMES;
        }
    }

    /** What is SEEN, and the ways in which it can have come about. */
    private static final class Witness {
        static final int MOST_SEEN = 7;
        static final int MOST_AHEAD = 4;

        final int[] who = new int[MOST_SEEN];
        final int[] when = new int[MOST_SEEN];
        final int[] hues = new int[MOST_SEEN];
        final int[] left = new int[(MOST_AHEAD + 1) * SORTS];
        final int[] choice = new int[MOST_AHEAD];
        final int[] first = new int[MOST_AHEAD];
        int size;
        int ways;

        boolean add(int i, int day, int hue) {
            if (size >= MOST_SEEN) {
                return false;
            }
            who[size] = i;
            when[size] = day;
            hues[size] = hue;
            size++;
            return true;
        }

        int lastDay(int i) {
            int last = 0;
            for (int s = 0; s < size; s++) {
                if (who[s] == i) {
                    last = Math.max(last, when[s]);
                }
            }
            return last;
        }

        private boolean agrees(int i, int day, int hue) {
            for (int s = 0; s < size; s++) {
                if (who[s] == i && when[s] == day && hues[s] != hue) {
                    return false;
                }
            }
            return true;
        }

        void recall(Town town, int i, Street now) {
            ways = 0;
            System.arraycopy(now.thimbles, i * SORTS, left, 0, SORTS);
            search(town, i, now.weekday(), 0, lastDay(i));
        }

        private void search(Town town, int i, int weekday, int day, int last) {
            if (day >= last) {
                if (ways == 0) {
                    System.arraycopy(choice, 0, first, 0, MOST_AHEAD);
                }
                ways++;
                return;
            }
            for (int k = -1; k < town.deeds; k++) {
                choice[day] = k < 0 ? NONE : k;
                if (spendDay(town, i, k, weekday, day)) {
                    search(town, i, (weekday + 1) % WEEK, day + 1, last);
                }
            }
        }

        /** Lets a day go by into the next row: whether the DEED can be done and what is SEEN is so. */
        private boolean spendDay(Town town, int i, int k, int weekday, int day) {
            int row = (day + 1) * SORTS;
            System.arraycopy(left, day * SORTS, left, row, SORTS);
            if (k >= 0) {
                if (!town.affords(i, k, left, row)) {
                    return false;
                }
                town.pay(left, row);
            }
            town.fade(i, left, row);
            if (!agrees(i, day + 1, hueOf(left, row))) {
                return false;
            }
            if (weekday == WEEK - 1) {
                town.renew(i, left, row);
            }
            return true;
        }
    }
}
