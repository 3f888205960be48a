/** The sentences of promises 24 to 28, which tell of what is asked of routes and allowed paths. */
final class BoundsOfPaths {
    private static final Run NEW = Run.NEW;

    /** From 0 up to 9 each net is a customer of the next one. */
    private static final Run UP = up();

    private final Sentences s;

    private BoundsOfPaths(Sentences s) {
        this.s = s;
    }

    static void tell(Sentences s) {
        BoundsOfPaths all = new BoundsOfPaths(s);
        all.path();
        all.leak();
        all.stopped();
        all.allowed();
        all.falseAlarms();
    }

    private static Run up() {
        Run run = NEW;
        for (int net = 0; net < 9; net++) {
            run = run.then("tie " + net + " " + (net + 1) + " 1");
        }
        return run;
    }

    private static Run everyTie(int what) {
        Run run = NEW;
        for (int one = 0; one < 10; one++) {
            for (int other = one + 1; other < 10; other++) {
                run = run.then("tie " + one + " " + other + " " + what);
            }
        }
        return run;
    }

    private static Run gone(int count, int route) {
        return Runs.routes(count).then("withdraw " + route);
    }

    private void path() {
        s.section("Promise 24: path");
        s.says("Returns how the path of a route is, judged upwards or downwards.");
        s.is(NEW.heard("0 0", 0), "path 0 1", Pathwarden.VALID);
        s.is(NEW.heard("0 0", 0), "path 0 0", Pathwarden.VALID);
        s.changesNothing(NEW.heard("0 0", 0, 1, 2), "path 0 1", "path 0 0");

        s.says("`route`: its number");
        s.bounds(Runs.routes(3), "path # 1", 0, 2, Due.INDEX);
        s.bounds(Runs.routes(24), "path # 0", 0, 23, Due.INDEX);
        s.is(Runs.routes(23).heard("0 0", 1, 2, 1), "path 23 1", Pathwarden.INVALID);
        s.is(Runs.routes(23).heard("0 0", 1, 2, 1), "path 22 1", Pathwarden.VALID);

        s.says("`upwards`: whether upwards");
        Run two = NEW.heard("0 0", 0, 1).then("vouch 0 0 0 9");
        s.is(two, "path 0 1", Pathwarden.INVALID);
        s.is(two, "path 0 0", Pathwarden.VALID);

        s.says("Returns NOT_FOUND, VALID or INVALID.");
        s.is(NEW.heard("0 0", 0, 9), "path 0 1", 0);
        s.is(NEW.heard("0 0", 0, 9).then("vouch 0 0 512 9"), "path 0 1", 1);
        s.is(NEW.heard("0 0", 0, 9).then("vouch 0 0 511 9"), "path 0 1", 2);
        s.is(NEW.heard("0 0", 0, 1, 2, 3, 4, 5), "path 0 0", 0);
        s.is(NEW.heard("0 0", 0, 1, 2), "path 0 0", 0);
        s.is(NEW.heard("0 0", 0, 1), "path 0 0", 1);
        s.is(NEW.heard("0 0", 0, 1, 2, 3, 4, 0), "path 0 0", 2);

        s.says("Throws `IndexOutOfBoundsException` if there is no such route, or it is withdrawn");
        s.refuses("path 0 1", Due.INDEX);
        s.refuses("path -1 0", Due.INDEX);
        s.refuses(NEW.hops(1), "path 0 1", Due.INDEX);
        s.refuses(Runs.routes(24), "path 24 1", Due.INDEX);
        s.refuses(gone(1, 0), "path 0 1", Due.INDEX);
        s.refuses(gone(24, 23), "path 23 0", Due.INDEX);
        s.is(gone(24, 23), "path 22 0", Pathwarden.VALID);
    }

    private void leak() {
        s.section("Promise 25: leak");
        s.says("Returns the first net at which a route leaks.");
        Run peers = everyTie(Pathwarden.PEER);
        s.is(peers.heard("0 0", 9, 0, 8), "leak 0", 0);
        s.is(peers.heard("0 0", 0, 9, 8), "leak 0", 9);
        s.is(peers.heard("0 0", 5, 4, 3, 2, 1, 0), "leak 0", 4);
        s.is(peers.then("tie 5 4 1").heard("0 0", 5, 4, 3, 2, 1, 0), "leak 0", 3);
        s.is(peers.then("tie 5 4 0", "tie 3 2 0").heard("0 0", 5, 4, 3, 2, 1, 0), "leak 0", 1);
        s.changesNothing(peers.heard("0 0", 9, 0, 8), "leak 0");

        s.says("`route`: its number");
        s.bounds(Runs.routes(3), "leak #", 0, 2, Due.INDEX);
        s.bounds(Runs.routes(24), "leak #", 0, 23, Due.INDEX);
        s.is(NEW.then("tie 1 2 3", "tie 2 3 3").then(Runs.routes(23)).heard("0 0", 1, 2, 3), "leak 23", 2);
        s.is(NEW.then("tie 1 2 3", "tie 2 3 3").then(Runs.routes(23)).heard("0 0", 1, 2, 3), "leak 22", Pathwarden.NONE);

        s.says("Returns the net; NONE if it leaks nowhere.");
        s.is(peers.heard("0 0", 9), "leak 0", -1);
        s.is(peers.heard("0 0", 9, 0), "leak 0", -1);
        s.is(peers.heard("0 0", 9, 0, 9), "leak 0", 0);
        s.is(UP.heard("0 0", 0, 1, 2, 3, 4, 5), "leak 0", -1);
        s.is(UP.heard("0 0", 5, 4, 3, 2, 1, 0), "leak 0", -1);
        s.is(UP.then("tie 6 4 1").heard("0 0", 5, 4, 6), "leak 0", -1);
        s.is(UP.then("tie 6 4 2").heard("0 0", 5, 4, 6), "leak 0", 4);
        s.is(NEW.heard("0 0", 1, 2, 3), "leak 0", -1);

        s.says("Throws `IndexOutOfBoundsException` if there is no such route, or it is withdrawn");
        s.refuses("leak 0", Due.INDEX);
        s.refuses("leak -1", Due.INDEX);
        s.refuses(Runs.routes(24), "leak 24", Due.INDEX);
        s.refuses(gone(1, 0), "leak 0", Due.INDEX);
        s.refuses(gone(24, 23), "leak 23", Due.INDEX);
        s.is(gone(24, 23), "leak 22", Pathwarden.NONE);
    }

    private void stopped() {
        s.section("Promise 26: stopped");
        s.says("Returns the first net of a route, behind its origin, that would have refused it, if some nets had filters.");
        Run wrong = NEW.then("origin 0 0 0 0 8 9");
        Run six = wrong.heard("0 0", 9, 1, 2, 3, 4, 5);
        s.is(six, "stopped 0 1023", 1);
        s.is(six, "stopped 0 512", Pathwarden.NONE);
        s.is(six, "stopped 0 32", 5);
        s.is(six, "stopped 0 " + (32 + 8), 3);
        s.is(wrong.heard("0 0", 9), "stopped 0 1023", Pathwarden.NONE);
        s.is(wrong.heard("0 0", 9, 9), "stopped 0 1023", Pathwarden.NONE);
        s.is(wrong.heard("0 0", 9, 8, 9), "stopped 0 512", 9);
        s.is(wrong.heard("0 0", 8, 0), "stopped 0 1", 0);
        s.changesNothing(six, "stopped 0 1023", "stopped 0 0");

        s.says("`route`: its number");
        s.bounds(Runs.routes(3), "stopped # 0", 0, 2, Due.INDEX);
        s.bounds(Runs.routes(24), "stopped # 1023", 0, 23, Due.INDEX);

        s.says("`filters`: 0 to 1023: the set of nets with filters");
        s.bounds(six, "stopped 0 #", 0, 1023, Due.ARGUMENT);
        for (int net = 0; net < 10; net++) {
            int origin = net == 8 ? 7 : 8;
            s.is(wrong.heard("0 0", origin, net), "stopped 0 " + (1 << net), net);
            s.is(wrong.heard("0 0", origin, net), "stopped 0 " + (1023 - (1 << net)), Pathwarden.NONE);
        }

        s.says("Returns the net; NONE if none would have.");
        s.is(six, "stopped 0 0", -1);
        s.is(six, "stopped 0 " + (1023 - 62), -1);
        s.is(NEW.heard("0 0", 9, 1, 2, 3, 4, 5), "stopped 0 1023", -1);
        s.is(NEW.heard("0 0", 9, 1, 2, 3, 4, 5).then("vouch 0 3 0 9"), "stopped 0 1023", 5);
        s.is(NEW.heard("0 0", 9, 1, 2, 3, 4, 5).then("vouch 0 4 0 9"), "stopped 0 1023", -1);
        s.is(NEW.heard("0 0", 9, 1, 2, 3, 4, 5).then("vouch 0 9 0 9"), "stopped 0 1023", 2);

        s.says("Throws `IndexOutOfBoundsException` if there is no such route, or it is withdrawn");
        s.refuses("stopped 0 0", Due.INDEX);
        s.refuses("stopped -1 0", Due.INDEX);
        s.refuses(Runs.routes(24), "stopped 24 0", Due.INDEX);
        s.refuses(gone(1, 0), "stopped 0 0", Due.INDEX);
        s.refuses(gone(24, 23), "stopped 23 0", Due.INDEX);
        s.is(gone(24, 23), "stopped 22 1023", Pathwarden.NONE);

        s.says("Throws `IllegalArgumentException` if filters is out of range");
        s.refuses(six, "stopped 0 -1", Due.ARGUMENT);
        s.refuses(six, "stopped 0 1024", Due.ARGUMENT);
        s.refuses(wrong.heard("0 0", 9), "stopped 0 1024", Due.ARGUMENT);
    }

    private void allowed() {
        s.section("Promise 27: allowed");
        s.says("Returns how many allowed paths of 2 to 5 nets go from a net to another one, by trying all paths.");
        s.is("allowed 0 9", 0);
        s.is(UP, "allowed 0 1", 1);
        s.is(UP, "allowed 0 4", 1);
        s.is(UP, "allowed 0 5", 0);
        s.is(UP, "allowed 9 5", 1);
        s.is(UP, "allowed 9 4", 0);
        s.is(UP.then("tie 0 4 1"), "allowed 0 7", 1);
        // 0 1 0 2 would have right ties, but runs round.
        s.is(NEW.then("tie 0 1 1", "tie 2 0 1"), "allowed 0 2", 1);
        s.is(NEW.then("tie 9 1 1", "tie 8 9 1"), "allowed 9 8", 1);
        s.is(UP.then("tie 0 4 1"), "allowed 0 8", 0);
        // 0, then none, one, two or three of the eight between, in rising order, then 9.
        s.is(everyTie(Pathwarden.CUSTOMER), "allowed 0 9", 1 + 8 + 28 + 56);
        s.is(everyTie(Pathwarden.PEER), "allowed 0 9", 1);
        s.is(everyTie(Pathwarden.NOTHING), "allowed 0 9", 0);
        s.changesNothing(UP, "allowed 0 4", "allowed 9 9");

        s.says("`from`: 0 to 9");
        s.bounds(UP, "allowed # 5", 0, 9, Due.INDEX);
        s.is(UP, "allowed 0 3", 1);
        s.is(UP, "allowed 9 6", 1);

        s.says("`to`: 0 to 9");
        s.bounds(UP, "allowed 5 #", 0, 9, Due.INDEX);
        s.is(UP, "allowed 3 0", 1);
        s.is(UP, "allowed 6 9", 1);

        s.says("Returns how many; 0 if both are the same.");
        for (int net = 0; net < 10; net++) {
            s.is(UP, "allowed " + net + " " + net, 0);
            s.is(everyTie(Pathwarden.CUSTOMER), "allowed " + net + " " + net, 0);
        }

        s.says("Throws `IndexOutOfBoundsException` if there is no such net, of either");
        s.refuses(UP, "allowed -1 0", Due.INDEX);
        s.refuses(UP, "allowed 10 0", Due.INDEX);
        s.refuses(UP, "allowed 0 -1", Due.INDEX);
        s.refuses(UP, "allowed 0 10", Due.INDEX);
        s.refuses(UP, "allowed 10 10", Due.INDEX);
        s.refuses(UP, "allowed -1 -1", Due.INDEX);
    }

    private void falseAlarms() {
        s.section("Promise 28: falseAlarms");
        s.says("Returns how many of all allowed paths of 2 to 5 nets the last net would refuse, if it had a filter, blocks left aside.");
        s.is("falseAlarms", 0);
        s.is(UP, "falseAlarms", 0);
        // 0 1 is not refused; 0 1 2, 0 1 2 3 and 0 1 2 3 4 are; six nets are too many.
        s.is(UP.then("vouch 0 0 0 9"), "falseAlarms", 3);
        s.is(UP.then("vouch 0 0 0 9", "origin 0 9 0 0 0 9"), "falseAlarms", 3);
        s.is(UP.then("vouch 0 0 0 9").heard("0 0", 0, 1, 2), "falseAlarms", 3);
        s.is(UP.then("vouch 0 0 0 9").days(9), "falseAlarms", 3);
        s.is(UP.then("vouch 0 0 0 9").days(10), "falseAlarms", 0);
        s.is(UP.then("vouch 0 0 2 9"), "falseAlarms", 0);
        // 9 denies what is ahead of it in no path that goes up, and is never ahead of another net upwards.
        s.is(UP.then("vouch 0 9 0 9"), "falseAlarms", 0);
        s.is(NEW.then("tie 0 1 1", "vouch 0 0 0 9", "vouch 0 1 0 9"), "falseAlarms", 0);
        s.is(NEW.then("tie 0 1 1", "tie 1 2 1", "vouch 0 0 0 9"), "falseAlarms", 1);
        s.is(NEW.then("tie 0 1 1", "tie 1 2 3", "vouch 0 0 0 9"), "falseAlarms", 1);
        s.is(NEW.then("tie 0 1 1", "tie 1 2 2", "vouch 0 0 0 9"), "falseAlarms", 0);
        s.is(everyTie(Pathwarden.PEER).then("vouch 0 0 0 9"), "falseAlarms", 0);
        s.changesNothing(UP.then("vouch 0 0 0 9"), "falseAlarms");
    }
}
