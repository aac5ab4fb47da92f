import java.lang.reflect.Method;
import java.util.ArrayList;
import java.util.Comparator;
import java.util.List;
import java.util.Random;

/** Drawn runs of calls (the same ones each time), each answer held against the model's. */
public final class ModelTest {
    private static final int RUNS = 1500;
    private static final int CALLS = 300;
    private static final Check check = new Check("model");

    public static void main(String[] args) throws Exception {
        List<Method> calls = new ArrayList<>();
        for (Method m : GreyByFriday.class.getDeclaredMethods()) {
            if (java.lang.reflect.Modifier.isPublic(m.getModifiers())) {
                calls.add(m);
            }
        }
        // The order of the methods is the machine's own otherwise.
        calls.sort(Comparator.comparing(Method::getName));
        int runs = args.length > 0 ? Integer.parseInt(args[0]) : RUNS;
        for (int seed = 0; seed < runs; seed++) {
            run(new Random(seed), seed, calls);
        }
        check.end();
    }

    private static void run(Random random, int seed, List<Method> calls) throws Exception {
        GreyByFriday x = new GreyByFriday();
        Model model = new Model();
        if (random.nextInt(10) > 0) {
            lay(random, x, model, seed);
        }
        for (int n = 0; n < CALLS; n++) {
            Method call = calls.get(random.nextInt(calls.size()));
            String name = call.getName();
            if (name.equals("write") || name.equals("wipe") || name.equals("lay")) {
                if (random.nextInt(20) == 0) {
                    lay(random, x, model, seed);
                }
                continue;
            }
            if (name.equals("best") && x.count(1) > 4 && random.nextInt(10) > 0) {
                continue; // dear in the model
            }
            compare(call, arguments(random, call, x), x, model, seed);
        }
    }

    private static void compare(Method call, Object[] numbers, GreyByFriday x, Model model, int seed) throws Exception {
        Method same = Model.class.getDeclaredMethod(call.getName(), call.getParameterTypes());
        int got = (int) call.invoke(x, numbers);
        int want = (int) same.invoke(model, numbers);
        check.due("seed " + seed + " " + call.getName() + java.util.Arrays.toString(numbers), got, want);
    }

    private static void lay(Random random, GreyByFriday x, Model model, int seed) {
        String text = text(random);
        if (random.nextInt(8) == 0) {
            text = spoilt(random, text);
        }
        check.due("wipe", x.wipe(), model.wipe());
        for (int i = 0; i < text.length(); i++) {
            check.due("write", x.write(text.charAt(i)), model.write(text.charAt(i)));
        }
        check.due("seed " + seed + " fault of " + text, x.fault(), model.fault());
        check.due("seed " + seed + " lay of " + text, x.lay(), model.lay());
    }

    private static String text(Random random) {
        StringBuilder text = new StringBuilder();
        int persons = 1 + random.nextInt(6);
        int deeds = random.nextInt(7);
        int ration = 1 + random.nextInt(9);
        for (int i = 0; i < persons; i++) {
            text.append('p').append(random.nextInt(5));
            for (int s = 0; s < 3; s++) {
                text.append(',').append(random.nextInt(ration + 1));
            }
            text.append(';');
        }
        int dear = 2 + random.nextInt(3);
        for (int k = 0; k < deeds; k++) {
            int[] cost = {random.nextInt(dear + 1), random.nextInt(dear), random.nextInt(dear)};
            cost[random.nextInt(3)] |= cost[0] + cost[1] + cost[2] == 0 ? 1 : 0;
            text.append('d').append(cost[0]).append(',').append(cost[1]).append(',').append(cost[2]);
            text.append(',').append(random.nextInt(random.nextInt(4) == 0 ? 2 : 10)).append(';');
        }
        int habits = deeds == 0 ? 0 : random.nextInt(13);
        for (int h = 0; h < habits; h++) {
            text.append('h').append(random.nextInt(persons)).append(',').append(random.nextInt(7));
            text.append(',').append(random.nextInt(deeds)).append(';');
        }
        if (random.nextBoolean()) {
            text.append('c').append(random.nextInt(10)).append(';');
        }
        return text.toString();
    }

    private static String spoilt(Random random, String text) {
        StringBuilder other = new StringBuilder(text);
        String letters = "pdhc0123456789,,;; x~";
        for (int n = random.nextInt(3); n >= 0; n--) {
            int at = random.nextInt(other.length());
            char letter = letters.charAt(random.nextInt(letters.length()));
            switch (random.nextInt(3)) {
                case 0: other.setCharAt(at, letter); break;
                case 1: other.insert(at, letter); break;
                default: other.deleteCharAt(at); break;
            }
            if (other.length() == 0) {
                other.append(letter);
            }
        }
        return other.toString();
    }

    private static Object[] arguments(Random random, Method call, GreyByFriday x) {
        Object[] numbers = new Object[call.getParameterCount()];
        for (int n = 0; n < numbers.length; n++) {
            numbers[n] = number(random, call.getName(), n, x);
        }
        return numbers;
    }

    /** Mostly a number that fits; else one near the edges or far beyond them. */
    private static int number(Random random, String call, int n, GreyByFriday x) {
        int odd = random.nextInt(60);
        if (odd == 0) {
            return random.nextInt();
        }
        if (odd < 4) {
            int[] edges = {-2, -1, 0, 7, 8, 10, 11, 30, 31, 60, 61, 99, 100, 9999, 10000,
                Integer.MAX_VALUE, Integer.MIN_VALUE};
            return edges[random.nextInt(edges.length)];
        }
        int most = mostOf(call, n, x);
        return call.equals("best") && n == 1 ? random.nextInt(most + 2) - 1 : random.nextInt(most + 1);
    }

    private static int mostOf(String call, int n, GreyByFriday x) {
        int person = x.count(0) - 1;
        int deed = Math.max(0, x.count(1) - 1);
        int[] most;
        switch (call) {
            case "person": most = new int[] {person, 6}; break;
            case "deed": most = new int[] {deed, 3}; break;
            case "told": most = new int[] {person, 6}; break;
            case "pass": most = new int[] {30}; break;
            case "lend": most = new int[] {person, person, 2, 9}; break;
            case "sell": most = new int[] {person, 2, 5}; break;
            case "levy": most = new int[] {2, 20}; break;
            case "behind": most = new int[] {60, person, 4}; break;
            case "grey": most = new int[] {1}; break;
            case "heap": most = new int[] {25, 25, 25}; break;
            case "seen": most = new int[] {person, 4, 7}; break;
            case "spent": most = new int[] {person, 4}; break;
            case "saved": most = new int[] {person, 2, 99}; break;
            case "lasts": most = new int[] {person, deed, 10, 7, 1}; break;
            case "year": most = new int[] {9999, 60, 1}; break;
            case "count": most = new int[] {9}; break;
            default: most = new int[] {person, deed}; break;
        }
        return most[n];
    }
}
