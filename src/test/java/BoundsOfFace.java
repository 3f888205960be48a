/** The throws clauses of the face that name several exceptions: the first one that applies is thrown. */
final class BoundsOfFace {
    private static final Run NEW = Run.NEW;
    private static final Run EIGHT = Runs.EIGHT;
    private static final String I = "IndexOutOfBoundsException", A = "IllegalArgumentException", S = "IllegalStateException";

    private final Sentences s;

    private BoundsOfFace(Sentences s) {
        this.s = s;
    }

    static void tell(Sentences s) {
        BoundsOfFace all = new BoundsOfFace(s);
        s.section("The public face");
        all.holders();
        all.objects();
        all.routes();
        all.questions();
        s.noneLeftOut("The public face");
    }

    private void clause(String method, String... exceptions) {
        s.says("public int " + method + " throws " + String.join(", ", exceptions) + ";");
    }

    private void holders() {
        clause("holder(int parent)", I, S);
        s.refuses(EIGHT, "holder 8", Due.INDEX);
        s.refuses(EIGHT, "holder -1", Due.INDEX);
        s.refuses(EIGHT, "holder 7", Due.STATE);

        // No holder that is not there has a key of 100: both never apply together.
        clause("roll(int holder)", I, S);
        s.refuses(NEW.times(100, "roll 0"), "roll 1", Due.INDEX);
        s.refuses(NEW.times(100, "roll 0"), "roll 0", Due.STATE);

        clause("publish(int holder, int days)", I, A);
        s.refuses("publish 1 101", Due.INDEX);
        s.refuses("publish -1 -1", Due.INDEX);
        s.refuses("publish 0 101", Due.ARGUMENT);

        clause("pass(int days)", A, S);
        s.refuses(NEW.days(10000), "pass 0", Due.ARGUMENT);
        s.refuses(NEW.days(10000), "pass -1", Due.ARGUMENT);
        s.refuses(NEW.days(10000), "pass 101", Due.ARGUMENT);
        s.refuses(NEW.days(10000), "pass 2147483647", Due.ARGUMENT);
        s.refuses(NEW.days(10000), "pass 1", Due.STATE);
    }

    /** Each wrong call with the right issuer and with a wrong one, with room for it and without. */
    private void threeOrders(String right, String wrongIndex, String wrongArgument, String bothWrong) {
        Run fifty = NEW.times(50, right);
        s.refuses(bothWrong, Due.INDEX);
        s.refuses(fifty, bothWrong, Due.INDEX);
        s.refuses(fifty, wrongIndex, Due.INDEX);
        s.refuses(fifty, wrongArgument, Due.ARGUMENT);
        s.refuses(fifty, right, Due.STATE);
        s.refuses(wrongArgument, Due.ARGUMENT);
        s.refuses(wrongIndex, Due.INDEX);
    }

    private void objects() {
        clause("grant(int issuer, int whom, int value, int length, int days)", I, A, S);
        threeOrders("grant 0 0 0 0 0", "grant 1 0 0 0 0", "grant 0 0 256 8 0", "grant 1 0 256 8 0");
        threeOrders("grant 0 0 0 0 0", "grant 0 1 0 0 0", "grant 0 0 0 9 0", "grant 0 1 0 9 0");
        threeOrders("grant 0 0 0 0 0", "grant -1 -1 0 0 0", "grant 0 0 0 0 1001", "grant 0 -1 0 0 1001");
        threeOrders("grant 0 0 0 0 0", "grant 0 1 0 0 0", "grant 0 0 1 7 0", "grant 0 1 1 7 0");

        clause("origin(int issuer, int net, int value, int length, int most, int days)", I, A, S);
        threeOrders("origin 0 0 0 0 0 0", "origin 1 0 0 0 0 0", "origin 0 0 256 8 0 0", "origin 1 0 256 8 0 0");
        threeOrders("origin 0 0 0 0 0 0", "origin 0 10 0 0 0 0", "origin 0 0 0 9 0 0", "origin 0 10 0 9 0 0");
        threeOrders("origin 0 0 0 0 0 0", "origin 0 -1 0 0 0 0", "origin 0 0 0 0 9 0", "origin 0 -1 0 0 9 0");
        threeOrders("origin 0 0 0 0 0 0", "origin 0 10 0 0 0 0", "origin 0 0 0 0 0 1001", "origin 0 10 0 0 0 1001");
        threeOrders("origin 0 0 0 0 0 0", "origin 0 10 0 0 0 0", "origin 0 0 1 7 0 0", "origin 0 10 1 7 0 0");

        clause("vouch(int issuer, int net, int providers, int days)", I, A, S);
        threeOrders("vouch 0 0 0 0", "vouch 1 0 0 0", "vouch 0 0 1024 0", "vouch 1 0 1024 0");
        threeOrders("vouch 0 0 0 0", "vouch 0 10 0 0", "vouch 0 0 -1 0", "vouch 0 10 -1 0");
        threeOrders("vouch 0 0 0 0", "vouch 0 -1 0 0", "vouch 0 0 0 1001", "vouch 0 -1 0 1001");

        clause("alter(int object, int extra)", I, S, A);
        s.refuses(Runs.KINDS, "alter 3 1024", Due.INDEX);
        s.refuses(Runs.KINDS, "alter -1 -1", Due.INDEX);
        s.refuses(Runs.KINDS, "alter 0 -1", Due.STATE);
        s.refuses(Runs.KINDS, "alter 0 1024", Due.STATE);
        s.refuses(Runs.KINDS, "alter 1 9", Due.ARGUMENT);
        s.refuses(Runs.KINDS, "alter 2 1024", Due.ARGUMENT);
    }

    private void routes() {
        clause("hop(int net)", I, S);
        s.refuses(NEW.hops(0, 1, 2, 3, 4, 5), "hop 10", Due.INDEX);
        s.refuses(NEW.hops(0, 1, 2, 3, 4, 5), "hop -1", Due.INDEX);
        s.refuses(NEW.hops(0, 1, 2, 3, 4, 5), "hop 0", Due.STATE);

        clause("hear(int value, int length)", A, S);
        s.refuses("hear 256 8", Due.ARGUMENT);
        s.refuses("hear 0 9", Due.ARGUMENT);
        s.refuses("hear 1 7", Due.ARGUMENT);
        s.refuses("hear 0 0", Due.STATE);
        s.refuses(Runs.routes(24).hops(1), "hear -1 8", Due.ARGUMENT);
        s.refuses(Runs.routes(24).hops(1), "hear 1 7", Due.ARGUMENT);
        s.refuses(Runs.routes(24), "hear 0 9", Due.ARGUMENT);
        s.refuses(Runs.routes(24).hops(1), "hear 0 0", Due.STATE);

        // No route that is not there is withdrawn: both never apply together.
        clause("withdraw(int route)", I, S);
        s.refuses(Runs.routes(1).then("withdraw 0"), "withdraw 1", Due.INDEX);
        s.refuses(Runs.routes(1).then("withdraw 0"), "withdraw 0", Due.STATE);

        clause("tie(int one, int other, int what)", I, A);
        s.refuses("tie 10 10 1", Due.INDEX);
        s.refuses("tie -1 -1 4", Due.INDEX);
        s.refuses("tie 0 10 4", Due.INDEX);
        s.refuses("tie -1 0 -1", Due.INDEX);
        s.refuses("tie 3 3 1", Due.ARGUMENT);
        s.refuses("tie 3 4 4", Due.ARGUMENT);
    }

    private void questions() {
        for (String has : new String[] {"has", "hasByChains"}) {
            s.says("public boolean " + has + "(int holder, int value, int length) throws " + I + ", " + A + ";");
            s.refuses(has + " 1 256 8", Due.INDEX);
            s.refuses(has + " -1 0 9", Due.INDEX);
            s.refuses(has + " 1 1 7", Due.INDEX);
            s.refuses(has + " 0 1 7", Due.ARGUMENT);
        }

        clause("state(int net, int value, int length)", I, A);
        s.refuses("state 10 256 8", Due.INDEX);
        s.refuses("state -1 0 9", Due.INDEX);
        s.refuses("state 10 1 7", Due.INDEX);
        s.refuses("state 0 1 7", Due.ARGUMENT);

        clause("stopped(int route, int filters)", I, A);
        s.refuses("stopped 0 1024", Due.INDEX);
        s.refuses("stopped -1 -1", Due.INDEX);
        s.refuses(Runs.routes(1).then("withdraw 0"), "stopped 0 1024", Due.INDEX);
        s.refuses(Runs.routes(1), "stopped 0 1024", Due.ARGUMENT);
    }
}
