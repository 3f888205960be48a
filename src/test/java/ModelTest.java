import java.util.Random;

/**
 * Holds the program against the model in runs of 512 calls, made at random from written seeds: each
 * answer, and each exception's very class. The runs lean to one part of the face each, so that its
 * deeper states are come to.
 */
public final class ModelTest {
    private static final String[] CHANGES = {
        "holder", "belong", "roll", "publish", "pass", "grant", "origin", "vouch",
        "revoke", "alter", "sign", "hop", "hear", "withdraw", "tie",
    };
    private static final String[] QUESTIONS = {
        "today", "objects", "judged", "has", "hasByChains", "state", "routes", "path", "leak",
        "stopped", "allowed", "falseAlarms", "clique", "inferred", "cone", "coneByPaths", "addresses",
    };
    /** How often each change comes, by the part that a run leans to: objects, routes, ties, all. */
    private static final int[][] WEIGHTS = {
        {6, 6, 2, 3, 2, 16, 8, 8, 2, 3, 5, 4, 2, 0, 2},
        {1, 1, 0, 0, 0, 2, 3, 4, 0, 1, 0, 40, 12, 1, 4},
        {2, 2, 0, 1, 1, 3, 3, 8, 0, 2, 1, 10, 4, 1, 30},
        {2, 2, 2, 2, 2, 3, 3, 3, 2, 3, 2, 6, 2, 1, 3},
    };

    private final Due due;
    private final Random random;
    private final Caller program = new Caller();
    private final Model model = new Model();
    private final int[] weights;
    private final int wrongOneIn;
    private final int nets;

    private ModelTest(Due due, long seed) {
        this.due = due;
        random = new Random(seed);
        weights = WEIGHTS[(int) (seed % WEIGHTS.length)];
        wrongOneIn = seed % 3 == 0 ? 12 : 60;
        nets = 4 + (int) (seed % 7);
    }

    public static void main(String[] args) {
        Due due = new Due("ModelTest");
        int runs = args.length > 0 ? Integer.parseInt(args[0]) : 400;
        for (long seed = 0; seed < runs && due.allRight(); seed++) {
            new ModelTest(due, seed).run(seed);
        }
        due.end();
    }

    private void run(long seed) {
        for (int n = 0; n < Caller.MOST_CALLS && due.allRight(); n++) {
            boolean change = random.nextInt(100) < 60;
            String name = change ? someChange() : QUESTIONS[random.nextInt(QUESTIONS.length)];
            if (name.equals("falseAlarms") && random.nextInt(4) != 0) {
                name = "stopped";
            }
            compare("run " + seed + ", call " + n, name, arguments(name));
        }
    }

    private String someChange() {
        int all = 0;
        for (int weight : weights) {
            all += weight;
        }
        int left = random.nextInt(all);
        int at = 0;
        while (left >= weights[at]) {
            left -= weights[at];
            at++;
        }
        return CHANGES[at];
    }

    private void compare(String where, String name, int[] a) {
        String what = where + ": " + name + java.util.Arrays.toString(a);
        due.same(what, answer(() -> model.call(name, a)), answer(() -> program.call(name, a)));
    }

    private static String answer(Due.Call call) {
        try {
            return String.valueOf(call.run());
        } catch (RuntimeException e) {
            return "throws." + e.getClass().getName();
        }
    }

    // ---- arguments, mostly right ones

    private int number(int least, int most) {
        if (random.nextInt(wrongOneIn) == 0) {
            int[] wrong = {least - 1, most + 1, Integer.MIN_VALUE, Integer.MAX_VALUE, -1, 1 << 20};
            return wrong[random.nextInt(wrong.length)];
        }
        return least + random.nextInt(most - least + 1);
    }

    private int among(int count) {
        return number(0, Math.max(0, count - 1));
    }

    private int net() {
        return random.nextInt(8) == 0 ? number(0, 9) : number(0, nets - 1);
    }

    private int holderNumber() {
        return among(Math.min(8, 1 + random.nextInt(4)));
    }

    private int object() {
        return among((int) model.call("objects"));
    }

    private int route() {
        return among((int) model.call("routes"));
    }

    private int length() {
        return number(0, random.nextInt(3) == 0 ? 8 : 3);
    }

    private int value(int length) {
        if (random.nextInt(wrongOneIn) == 0) {
            return number(0, 255);
        }
        int kept = Math.max(0, Math.min(8, length));
        int some = random.nextInt(3) == 0 ? 128 : random.nextInt(256);
        return some >> 8 - kept << 8 - kept;
    }

    private int days(int most) {
        return random.nextInt(5) == 0 ? number(0, most / 20) : number(most / 5, most);
    }

    private int[] arguments(String name) {
        int length = length();
        int value = value(length);
        switch (name) {
            case "holder": return new int[] {holderNumber()};
            case "belong": return new int[] {net(), holderNumber()};
            case "roll": return new int[] {holderNumber()};
            case "publish": return new int[] {holderNumber(), days(100)};
            case "pass": return new int[] {random.nextInt(3) == 0 ? number(1, 100) : number(1, 8)};
            case "grant": return grant(value, length);
            case "origin": return new int[] {holderNumber(), net(), value, length, number(0, 8), days(1000)};
            case "vouch": return new int[] {holderNumber(), net(), number(0, 1023), days(1000)};
            case "revoke": case "sign": case "judged": return new int[] {object()};
            case "alter": return new int[] {object(), random.nextBoolean() ? number(0, 8) : number(0, 1023)};
            case "hop": case "cone": case "coneByPaths": case "addresses": return new int[] {net()};
            case "hear": return new int[] {value, length};
            case "withdraw": case "leak": return new int[] {route()};
            case "tie": return new int[] {net(), net(), number(0, 3)};
            case "has": case "hasByChains": return new int[] {holderNumber(), value, length};
            case "state": return new int[] {net(), value, length};
            case "path": return new int[] {route(), random.nextInt(2)};
            case "stopped": return new int[] {route(), random.nextBoolean() ? 1023 : number(0, 1023)};
            case "allowed": return new int[] {net(), net()};
            case "inferred": return new int[] {net(), net(), number(0, 2)};
            default: return new int[0];
        }
    }

    /** Mostly from a lesser holder to a greater one, else few grants would be good. */
    private int[] grant(int value, int length) {
        int issuer = holderNumber();
        int whom = random.nextInt(6) == 0 ? holderNumber() : issuer + 1 + random.nextInt(2);
        return new int[] {issuer, whom, value, length, days(1000)};
    }
}
