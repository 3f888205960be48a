/** The sentences of promises 29 to 33, which tell of relations and cones. */
final class BoundsOfRelations {
    private static final Run NEW = Run.NEW;
    private static final Run CORE = Runs.CORE;

    private final Sentences s;

    private BoundsOfRelations(Sentences s) {
        this.s = s;
    }

    static void tell(Sentences s) {
        BoundsOfRelations all = new BoundsOfRelations(s);
        all.clique();
        all.inferred();
        all.cone();
        all.coneByPaths();
        all.addresses();
    }

    private void clique() {
        s.section("Promise 29: clique");
        s.says("Returns the clique, as a set of nets.");
        s.is("clique", 0);
        s.is(NEW.hops(0, 1), "clique", 0);
        s.is(NEW.heard("0 0", 0), "clique", 0);
        s.is(NEW.heard("0 0", 0, 1), "clique", 3);
        s.is(NEW.heard("0 0", 9, 8), "clique", 512 + 256);
        s.is(Runs.everyPair(), "clique", 1023);
        s.is(Runs.routes(22).heard("0 0", 8, 9).heard("0 0", 7, 9), "clique", 512 + 128);
        s.is(NEW.heard("0 0", 0, 1, 0), "clique", 0);
        s.is(NEW.heard("0 0", 0, 1).then("withdraw 0"), "clique", 0);
        s.is(NEW.then("tie 0 1 3"), "clique", 0);
        s.changesNothing(CORE, "clique");
    }

    private void inferred() {
        s.section("Promise 30: inferred");
        s.says("Returns what a net is inferred to be to another one.");
        s.is(CORE.heard("0 0", 9, 0), "inferred 9 0 2", Pathwarden.CUSTOMER);
        s.is(CORE.heard("0 0", 9, 0), "inferred 0 9 2", Pathwarden.PROVIDER);
        s.is(CORE.heard("0 0", 9, 0).then("tie 9 0 2"), "inferred 9 0 2", Pathwarden.CUSTOMER);
        s.changesNothing(CORE.heard("0 0", 9, 0), "inferred 9 0 2", "inferred 9 0 0", "inferred 5 6 1");

        s.says("`one`: 0 to 9");
        s.bounds(CORE, "inferred # 0 0", 0, 9, Due.INDEX);

        s.says("`other`: 0 to 9");
        s.bounds(CORE, "inferred 0 # 2", 0, 9, Due.INDEX);

        s.says("`round`: 0 to 2");
        s.bounds(CORE, "inferred 0 1 #", 0, 2, Due.INDEX);
        s.bounds(NEW, "inferred 9 9 #", 0, 2, Due.INDEX);

        s.says("Returns NOTHING, if they are no neighbours, or the same; CUSTOMER, PROVIDER or PEER.");
        for (int round = 0; round < 3; round++) {
            s.is("inferred 0 9 " + round, 0);
            for (int net = 0; net < 10; net++) {
                s.is(Runs.everyPair(), "inferred " + net + " " + net + " " + round, 0);
            }
            Run run = CORE.heard("0 0", 8, 9, 0);
            s.is(run, "inferred 8 0 " + round, 0);
            s.is(run, "inferred 8 9 " + round, 1);
            s.is(run, "inferred 9 8 " + round, 2);
            s.is(run, "inferred 0 3 " + round, 3);
            s.is(run.then("withdraw 2"), "inferred 8 9 " + round, 0);
            s.is(NEW.heard("0 0", 8, 9, 8), "inferred 8 9 " + round, 0);
        }

        s.says("Throws `IndexOutOfBoundsException` if there is no such net, of either, or round");
        s.refuses(CORE, "inferred -1 0 0", Due.INDEX);
        s.refuses(CORE, "inferred 10 0 0", Due.INDEX);
        s.refuses(CORE, "inferred 0 -1 0", Due.INDEX);
        s.refuses(CORE, "inferred 0 10 0", Due.INDEX);
        s.refuses(CORE, "inferred 0 1 -1", Due.INDEX);
        s.refuses(CORE, "inferred 0 1 3", Due.INDEX);
        s.refuses(CORE, "inferred 0 0 3", Due.INDEX);
        s.refuses(CORE, "inferred 10 10 0", Due.INDEX);
        s.refuses(NEW, "inferred 5 6 3", Due.INDEX);
    }

    private void cone() {
        s.section("Promise 31: cone");
        s.says("Returns the cone of a net by relations.");
        s.changesNothing(CORE, "cone 0", "cone 9");

        s.says("`net`: 0 to 9");
        s.bounds(CORE, "cone #", 0, 9, Due.INDEX);

        s.says("Returns the set of nets.");
        for (int net = 0; net < 10; net++) {
            s.is("cone " + net, 1 << net);
            s.is(Runs.everyPair(), "cone " + net, 1 << net);
        }
        Run star = NEW;
        for (int net = 1; net < 10; net++) {
            star = star.heard("0 0", net, 0);
        }
        // 1 is of the clique, and so a peer of 0.
        s.is(star, "clique", 3);
        s.is(star, "cone 0", 1023 - 2);
        s.is(star, "cone 1", 2);
        s.is(star, "cone 9", 512);
        s.is(star.then("withdraw 8"), "cone 0", 511 - 2);

        s.says("Throws `IndexOutOfBoundsException` if there is no such net");
        s.refuses(star, "cone -1", Due.INDEX);
        s.refuses(star, "cone 10", Due.INDEX);
    }

    private void coneByPaths() {
        s.section("Promise 32: coneByPaths");
        s.says("Returns the cone of a net by paths.");
        s.changesNothing(CORE, "coneByPaths 0", "coneByPaths 9");

        s.says("`net`: 0 to 9");
        s.bounds(CORE, "coneByPaths #", 0, 9, Due.INDEX);

        s.says("Returns the set of nets.");
        for (int net = 0; net < 10; net++) {
            s.is("coneByPaths " + net, 1 << net);
            s.is(Runs.everyPair(), "coneByPaths " + net, 1 << net);
        }
        Run chain = CORE.heard("0 0", 9, 8, 7, 6, 5, 0);
        s.is(chain, "coneByPaths 0", 1 + 32 + 64 + 128 + 256 + 512);
        s.is(chain, "coneByPaths 5", 32 + 64 + 128 + 256 + 512);
        s.is(chain, "coneByPaths 9", 512);
        s.is(CORE.heard("0 0", 0, 5, 6, 7, 8, 9), "coneByPaths 0", 1);
        s.is(CORE.heard("0 0", 0, 5, 6, 7, 8, 9), "cone 0", 1 + 32 + 64 + 128 + 256 + 512);
        s.is(chain.then("withdraw 2"), "coneByPaths 5", 32);
        s.is(chain.heard("0 0", 4, 0, 4), "coneByPaths 0", 1 + 32 + 64 + 128 + 256 + 512);

        s.says("Throws `IndexOutOfBoundsException` if there is no such net");
        s.refuses(chain, "coneByPaths -1", Due.INDEX);
        s.refuses(chain, "coneByPaths 10", Due.INDEX);
    }

    private void addresses() {
        s.section("Promise 33: addresses");
        s.says("Returns the cone of a net by addresses: how many addresses are in blocks of routes that are there, those that run round included, and whose origin is in its cone by relations.");
        s.is(NEW.heard("0 1", 4), "addresses 4", 128);
        s.is(NEW.heard("0 1", 4).then("withdraw 0"), "addresses 4", 0);
        s.is(NEW.heard("0 1", 4, 5, 4), "addresses 4", 128);
        s.is(NEW.heard("0 1", 4, 5, 4), "addresses 5", 0);
        s.is(NEW.heard("0 1", 4, 5, 4).then("withdraw 0"), "addresses 4", 0);
        Run below = CORE.then("withdraw 0", "withdraw 1").heard("255 8", 0, 1, 2, 3).heard("254 8", 2, 0, 3, 1);
        s.is(below.heard("0 2", 9, 0), "addresses 0", 1 + 64);
        s.is(below.heard("0 2", 8, 9, 0), "addresses 0", 1 + 64);
        s.is(below.heard("0 2", 8, 9, 0), "addresses 9", 64);
        s.is(below.heard("0 2", 8, 9, 0), "addresses 1", 0);
        s.is(below.heard("0 2", 8, 9, 0).heard("0 1", 9, 8, 9), "addresses 0", 1 + 128);
        s.changesNothing(below, "addresses 0", "addresses 9");

        s.says("`net`: 0 to 9");
        s.bounds(below, "addresses #", 0, 9, Due.INDEX);

        s.says("Returns 0 to 256.");
        s.is("addresses 0", 0);
        s.is(NEW.heard("0 8", 4), "addresses 4", 1);
        s.is(NEW.heard("255 8", 4), "addresses 4", 1);
        s.is(NEW.heard("0 0", 4), "addresses 4", 256);
        s.is(NEW.heard("0 0", 4).heard("0 0", 4).heard("128 1", 4), "addresses 4", 256);
        s.is(NEW.heard("0 1", 4).heard("128 1", 4), "addresses 4", 256);
        Run nearly = NEW;
        for (int length = 1; length <= 8; length++) {
            nearly = nearly.heard(256 - (512 >> length) + " " + length, 4);
        }
        s.is(nearly, "addresses 4", 255);
        s.is(nearly.heard("255 8", 4), "addresses 4", 256);
        s.is(nearly.heard("255 8", 5), "addresses 4", 255);

        s.says("Throws `IndexOutOfBoundsException` if there is no such net");
        s.refuses(below, "addresses -1", Due.INDEX);
        s.refuses(below, "addresses 10", Due.INDEX);
    }
}
