/** The sentences of promises 13 to 16 and 23, which tell of routes and ties. */
final class BoundsOfRoutes {
    private static final Run NEW = Run.NEW;

    private final Sentences s;

    private BoundsOfRoutes(Sentences s) {
        this.s = s;
    }

    static void tell(Sentences s) {
        BoundsOfRoutes all = new BoundsOfRoutes(s);
        all.hop();
        all.hear();
        all.withdraw();
        all.tie();
        all.routes();
    }

    private void hop() {
        s.section("Promise 13: hop");
        s.says("Adds a net to the draft of a path.");
        s.is(NEW.hops(0, 9).then("hear 0 0"), "inferred 0 9 0", Pathwarden.PEER);
        s.is(NEW.hops(9, 0).then("hear 0 0"), "addresses 9", 256);
        s.sameBehind(NEW.hops(0, 1, 2, 3, 4, 5).then("?hop 6", "hear 0 0"), NEW.heard("0 0", 0, 1, 2, 3, 4, 5));

        s.says("`net`: 0 to 9");
        s.bounds(NEW, "hop #", 0, 9, Due.INDEX);
        s.bounds(NEW.hops(1, 2, 3, 4, 5), "hop #", 0, 9, Due.INDEX);

        s.says("Returns how many nets the draft has then.");
        int[] nets = {0, 9, 8, 7, 6, 5};
        Run run = NEW;
        for (int n = 0; n < 6; n++) {
            s.is(run, "hop " + nets[n], n + 1);
            s.is(NEW.times(n, "hop 4"), "hop 4", n + 1);
            run = run.hops(nets[n]);
        }
        s.is(NEW.heard("0 0", 1, 2, 3), "hop 4", 1);
        s.is(NEW.hops(1, 2).then("?hear 0 9"), "hop 3", 3);
        s.is(NEW.hops(1, 2).then("?hop 10"), "hop 3", 3);

        s.says("Throws `IndexOutOfBoundsException` if there is no such net");
        s.refuses("hop -1", Due.INDEX);
        s.refuses("hop 10", Due.INDEX);
        s.refuses(NEW.hops(1, 2), "hop 10", Due.INDEX);

        s.says("Throws `IllegalStateException` if it has 6");
        s.is(NEW.hops(0, 1, 2, 3, 4), "hop 5", 6);
        s.refuses(NEW.hops(0, 1, 2, 3, 4, 5), "hop 6", Due.STATE);
        s.refuses(NEW.hops(0, 1, 2, 3, 4, 5), "hop 5", Due.STATE);
        s.refuses(NEW.times(6, "hop 7"), "hop 7", Due.STATE);
        s.is(NEW.hops(0, 1, 2, 3, 4, 5).then("hear 0 0"), "hop 6", 1);
    }

    private void hear() {
        s.section("Promise 14: hear");
        s.says("Hears a route by the draft, which is empty then.");
        s.refuses(NEW.heard("0 0", 1), "hear 0 0", Due.STATE);
        s.is(NEW.heard("0 0", 1), "hop 2", 1);
        s.is(NEW.heard("0 0", 1, 2, 3, 4, 5, 6).heard("0 0", 7), "path 1 1", Pathwarden.VALID);

        s.says("`value`: 0 to 255: that of the block");
        s.bounds(NEW.hops(3), "hear # 8", 0, 255, Due.ARGUMENT);
        s.is(NEW.heard("0 8", 3).then("origin 0 3 0 8 0 9"), "stopped 0 1023", Pathwarden.NONE);
        s.is(NEW.heard("255 8", 3, 4).then("origin 0 3 255 8 0 9"), "stopped 0 1023", 4);
        s.is(NEW.heard("254 8", 3, 4).then("origin 0 3 255 8 0 9"), "stopped 0 1023", Pathwarden.NONE);

        s.says("`length`: 0 to 8");
        s.bounds(NEW.hops(3), "hear 0 #", 0, 8, Due.ARGUMENT);
        for (int length = 0; length <= 8; length++) {
            s.is(NEW.heard("0 " + length, 3), "addresses 3", 256 >> length);
        }

        s.says("Returns the number of the route.");
        s.is(NEW.hops(1), "hear 0 0", 0);
        s.is(Runs.routes(23).hops(1, 2), "hear 0 0", 23);
        s.is(Runs.routes(3).then("withdraw 2").hops(1), "hear 0 0", 3);
        s.is(NEW.then("?hear 0 0").hops(1).then("?hear 0 9"), "hear 0 0", 0);

        s.says("Throws `IllegalArgumentException` if value or length is out of range, or the value has others than its first bits");
        s.firstBits(NEW.hops(1, 2), "hear # #", 0);
        s.refuses(NEW.hops(1, 2), "hear 255 7", Due.ARGUMENT);
        s.refuses(NEW.hops(1, 2), "hear -1 8", Due.ARGUMENT);
        s.refuses(NEW.hops(1, 2), "hear 256 8", Due.ARGUMENT);
        s.refuses(NEW.hops(1, 2), "hear 0 -1", Due.ARGUMENT);
        s.refuses(NEW.hops(1, 2), "hear 0 9", Due.ARGUMENT);

        s.says("Throws `IllegalStateException` if the draft is empty, or 24 were heard");
        s.refuses("hear 0 0", Due.STATE);
        s.refuses(Runs.routes(23), "hear 0 0", Due.STATE);
        s.is(Runs.routes(23).hops(9), "hear 0 0", 23);
        s.refuses(Runs.routes(24).hops(9), "hear 0 0", Due.STATE);
        s.refuses(Runs.routes(24), "hear 0 0", Due.STATE);
        s.refuses(Runs.routes(24).hops(9, 8, 7).then("withdraw 23"), "hear 0 0", Due.STATE);
        s.is(Runs.routes(24).hops(9).then("?hear 0 0"), "hop 9", 2);
        s.is(Runs.routes(24).hops(9, 8, 7, 6, 5), "hop 4", 6);
        s.refuses(Runs.routes(24).hops(9, 8, 7, 6, 5, 4), "hop 3", Due.STATE);
    }

    private void withdraw() {
        s.section("Promise 15: withdraw");
        s.says("Withdraws a route.");
        s.is(NEW.heard("0 0", 1, 2).heard("0 0", 3, 4).then("withdraw 0"), "clique", 8 + 16);
        s.is(NEW.heard("0 0", 1, 2).heard("0 0", 3, 4).then("withdraw 1"), "clique", 2 + 4);
        s.refuses(NEW.heard("0 0", 1, 2).then("withdraw 0"), "leak 0", Due.INDEX);

        s.says("`route`: its number");
        s.bounds(Runs.routes(3), "withdraw #", 0, 2, Due.INDEX);
        s.bounds(Runs.routes(24), "withdraw #", 0, 23, Due.INDEX);

        s.says("Returns how many routes are there then.");
        s.is(Runs.routes(1), "withdraw 0", 0);
        s.is(Runs.routes(2), "withdraw 1", 1);
        s.is(Runs.routes(24), "withdraw 0", 23);
        s.is(Runs.routes(24).then("withdraw 0"), "withdraw 23", 22);
        s.is(Runs.routes(3).then("withdraw 1", "?withdraw 1", "?withdraw 3"), "withdraw 0", 1);
        s.is(NEW.heard("0 0", 1, 2, 1).heard("0 0", 1, 2, 1), "withdraw 0", 1);
        Run gone = Runs.routes(24);
        for (int route = 0; route < 23; route++) {
            gone = gone.then("withdraw " + route);
        }
        s.is(gone, "withdraw 23", 0);

        s.says("Throws `IndexOutOfBoundsException` if there is no such route");
        s.refuses("withdraw 0", Due.INDEX);
        s.refuses(Runs.routes(3), "withdraw -1", Due.INDEX);
        s.refuses(Runs.routes(3), "withdraw 3", Due.INDEX);
        s.refuses(Runs.routes(24), "withdraw 24", Due.INDEX);

        s.says("Throws `IllegalStateException` if it is withdrawn");
        s.refuses(Runs.routes(3).then("withdraw 0"), "withdraw 0", Due.STATE);
        s.refuses(Runs.routes(3).then("withdraw 2"), "withdraw 2", Due.STATE);
        s.refuses(gone.then("withdraw 23"), "withdraw 23", Due.STATE);
        s.is(Runs.routes(3).then("withdraw 0"), "withdraw 1", 1);
    }

    private void tie() {
        s.section("Promise 16: tie");
        s.says("Tells the tie of two nets, in place of one that was told.");
        s.is(NEW.then("tie 0 9 1", "tie 0 9 3"), "tie 0 9 0", Pathwarden.PEER);
        s.is(NEW.then("tie 0 9 1", "tie 9 0 1"), "tie 0 9 0", Pathwarden.PROVIDER);
        s.is(NEW.then("tie 0 9 1", "tie 0 9 0"), "allowed 0 9", 0);
        s.is(NEW.then("tie 0 9 1", "tie 0 8 3"), "tie 0 9 0", Pathwarden.CUSTOMER);

        s.says("`one`: 0 to 9");
        s.bounds(NEW, "tie # 5 1", 0, 9, Due.INDEX);

        s.says("`other`: 0 to 9");
        s.bounds(NEW, "tie 5 # 1", 0, 9, Due.INDEX);

        s.says("`what`: NOTHING, CUSTOMER, PROVIDER or PEER: what the one is to the other one");
        s.bounds(NEW.then("tie 0 9 3"), "tie 0 9 #", 0, 3, Due.ARGUMENT);
        int[] turned = {Pathwarden.NOTHING, Pathwarden.PROVIDER, Pathwarden.CUSTOMER, Pathwarden.PEER};
        for (int what = 0; what <= 3; what++) {
            s.is(NEW.then("tie 0 9 " + what), "tie 0 9 0", what);
            s.is(NEW.then("tie 0 9 " + what), "tie 9 0 0", turned[what]);
        }

        s.says("Returns what it was.");
        s.is("tie 0 9 0", Pathwarden.NOTHING);
        s.is("tie 9 0 3", Pathwarden.NOTHING);
        s.is(NEW.then("tie 9 8 1", "?tie 9 8 4"), "tie 9 8 1", Pathwarden.CUSTOMER);

        s.says("Throws `IndexOutOfBoundsException` if there is no such net, of either");
        s.refuses("tie -1 0 1", Due.INDEX);
        s.refuses("tie 10 0 1", Due.INDEX);
        s.refuses("tie 0 -1 1", Due.INDEX);
        s.refuses("tie 0 10 1", Due.INDEX);
        s.refuses("tie 10 -1 1", Due.INDEX);

        s.says("Throws `IllegalArgumentException` if both are the same, or what is out of range");
        for (int net = 0; net < 10; net++) {
            s.refuses("tie " + net + " " + net + " 0", Due.ARGUMENT);
        }
        s.refuses("tie 3 3 3", Due.ARGUMENT);
        s.refuses("tie 3 3 4", Due.ARGUMENT);
        s.refuses(NEW.then("tie 0 9 2"), "tie 0 9 -1", Due.ARGUMENT);
        s.refuses(NEW.then("tie 0 9 2"), "tie 0 9 4", Due.ARGUMENT);
    }

    private void routes() {
        s.section("Promise 23: routes");
        s.says("Returns how many routes were heard.");
        s.is("routes", 0);
        s.is(NEW.hops(1), "routes", 0);
        s.is(Runs.routes(1), "routes", 1);
        s.is(Runs.routes(23), "routes", 23);
        s.is(Runs.routes(24), "routes", 24);
        s.is(Runs.routes(24).hops(1).then("?hear 0 0"), "routes", 24);
        s.is(Runs.routes(24).then("withdraw 0", "withdraw 23"), "routes", 24);
        s.is(Runs.routes(1).then("withdraw 0"), "routes", 1);
        s.is(NEW.hops(1).then("?hear 256 8"), "routes", 0);
        s.changesNothing(Runs.routes(24), "routes");
    }
}
