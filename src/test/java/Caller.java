/**
 * Calls the program by name, so that a run of calls can be written as texts like "grant 0 1 128 1 50".
 * Nothing is promised behind the 512th call of an object, so a test that goes further is wrong itself.
 */
final class Caller {
    static final int MOST_CALLS = 512;

    private final Pathwarden program = new Pathwarden();
    private int calls = 0;

    /** The answer of a call written as one text, or the very class of what it throws. */
    String answer(String call) {
        String[] words = call.split(" ");
        int[] a = new int[words.length - 1];
        for (int i = 0; i < a.length; i++) {
            a[i] = Integer.parseInt(words[i + 1]);
        }
        try {
            return String.valueOf(call(words[0], a));
        } catch (RuntimeException e) {
            return thrown(e.getClass());
        }
    }

    static String thrown(Class<? extends RuntimeException> kind) {
        return "throws." + kind.getName();
    }

    /** A boolean counts 1 or 0, as an argument and as an answer. */
    long call(String name, int... a) {
        calls++;
        if (calls > MOST_CALLS) {
            throw new AssertionError("the test asks " + name + " behind the last call that is promised");
        }
        switch (name) {
            case "holder": return program.holder(a[0]);
            case "belong": return program.belong(a[0], a[1]);
            case "roll": return program.roll(a[0]);
            case "publish": return program.publish(a[0], a[1]);
            case "pass": return program.pass(a[0]);
            case "grant": return program.grant(a[0], a[1], a[2], a[3], a[4]);
            case "origin": return program.origin(a[0], a[1], a[2], a[3], a[4], a[5]);
            case "vouch": return program.vouch(a[0], a[1], a[2], a[3]);
            case "revoke": return Due.bit(program.revoke(a[0]));
            case "alter": return program.alter(a[0], a[1]);
            case "sign": return program.sign(a[0]);
            case "hop": return program.hop(a[0]);
            case "hear": return program.hear(a[0], a[1]);
            case "withdraw": return program.withdraw(a[0]);
            case "tie": return program.tie(a[0], a[1], a[2]);
            default: return ask(name, a);
        }
    }

    private long ask(String name, int[] a) {
        switch (name) {
            case "today": return program.today();
            case "objects": return program.objects();
            case "judged": return program.judged(a[0]);
            case "has": return Due.bit(program.has(a[0], a[1], a[2]));
            case "hasByChains": return Due.bit(program.hasByChains(a[0], a[1], a[2]));
            case "state": return program.state(a[0], a[1], a[2]);
            case "routes": return program.routes();
            case "path": return program.path(a[0], a[1] == 1);
            case "leak": return program.leak(a[0]);
            case "stopped": return program.stopped(a[0], a[1]);
            case "allowed": return program.allowed(a[0], a[1]);
            case "falseAlarms": return program.falseAlarms();
            case "clique": return program.clique();
            case "inferred": return program.inferred(a[0], a[1], a[2]);
            case "cone": return program.cone(a[0]);
            case "coneByPaths": return program.coneByPaths(a[0]);
            case "addresses": return program.addresses(a[0]);
            default: throw new AssertionError(name);
        }
    }
}
