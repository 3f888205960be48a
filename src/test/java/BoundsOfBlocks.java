/** The sentences of promises 20 to 22, which tell of what is asked of blocks. */
final class BoundsOfBlocks {
    private static final Run NEW = Run.NEW;
    private static final Run EIGHT = Runs.EIGHT;

    private final Sentences s;

    private BoundsOfBlocks(Sentences s) {
        this.s = s;
    }

    static void tell(Sentences s) {
        BoundsOfBlocks all = new BoundsOfBlocks(s);
        s.section("Promise 20: has");
        s.says("Tells whether a holder has a block.");
        all.has("has");
        s.section("Promise 21: hasByChains");
        s.says("Tells the same, by following all chains of grants from the holder up.");
        all.has("hasByChains");
        all.chains();
        all.state();
    }

    /** Both calls tell the same, in the same words. */
    private void has(String has) {
        s.is(has + " 0 0 0", 1);
        s.is(NEW.then("holder 0"), has + " 1 0 8", 0);
        s.changesNothing(Runs.KINDS, has + " 1 0 0", has + " 0 0 0");

        s.says("`holder`: a holder");
        s.bounds(EIGHT, has + " # 0 0", 0, 7, Due.INDEX);
        s.bounds(NEW, has + " # 0 0", 0, 0, Due.INDEX);

        s.says("`value`: 0 to 255: that of the block");
        s.bounds(NEW, has + " 0 # 8", 0, 255, Due.ARGUMENT);
        s.is(EIGHT.then("grant 0 7 255 8 9"), has + " 7 255 8", 1);
        s.is(EIGHT.then("grant 0 7 254 7 9"), has + " 7 255 8", 1);
        s.is(EIGHT.then("grant 0 7 254 8 9"), has + " 7 255 8", 0);
        s.is(EIGHT.then("grant 0 7 0 1 9"), has + " 7 127 8", 1);
        s.is(EIGHT.then("grant 0 7 0 1 9"), has + " 7 128 8", 0);

        s.says("`length`: 0 to 8");
        s.bounds(NEW, has + " 0 0 #", 0, 8, Due.ARGUMENT);
        for (int length = 0; length <= 8; length++) {
            s.is(EIGHT.then("grant 0 7 0 " + length + " 9"), has + " 7 0 " + length, 1);
            if (length > 0) {
                s.is(EIGHT.then("grant 0 7 0 " + length + " 9"), has + " 7 0 " + (length - 1), 0);
            }
        }

        s.says("Returns whether it has.");
        Run grant = NEW.then("holder 0", "holder 1", "grant 0 1 128 1 9", "grant 1 2 128 1 8");
        s.is(grant.days(8), has + " 2 128 1", 1);
        s.is(grant.days(9), has + " 2 128 1", 0);
        s.is(grant.days(9), has + " 1 128 1", 1);
        s.is(grant.days(10), has + " 1 128 1", 0);
        s.is(grant.days(10), has + " 0 128 1", 1);
        s.is(grant.then("publish 0 2").days(3), has + " 2 128 1", 0);
        s.is(grant.then("revoke 0", "publish 0 2"), has + " 2 128 1", 0);
        s.is(NEW.then("holder 0", "origin 0 1 0 0 8 9", "vouch 0 1 1023 9"), has + " 1 0 8", 0);

        s.says("Throws `IndexOutOfBoundsException` if there is no such holder");
        s.refuses(has + " -1 0 0", Due.INDEX);
        s.refuses(has + " 1 0 0", Due.INDEX);
        s.refuses(EIGHT, has + " 8 0 0", Due.INDEX);

        s.says("Throws `IllegalArgumentException` if value or length is out of range, or the value has others than its first bits");
        s.firstBits(NEW, has + " 0 # #", 1);
        s.refuses(has + " 0 255 7", Due.ARGUMENT);
        s.refuses(has + " 0 -1 8", Due.ARGUMENT);
        s.refuses(has + " 0 256 8", Due.ARGUMENT);
        s.refuses(has + " 0 0 -1", Due.ARGUMENT);
        s.refuses(has + " 0 0 9", Due.ARGUMENT);
    }

    /** Seven grants each from a holder to the next one: 7 to the power of 7 chains, and none ends well. */
    private void chains() {
        Run many = NEW;
        for (int holder = 1; holder < 8; holder++) {
            many = many.then("holder " + (holder - 1)).times(7, "grant " + (holder - 1) + " " + holder + " 0 0 99");
        }
        s.says("Tells the same, by following all chains of grants from the holder up.");
        s.is(many, "hasByChains 7 0 0", 1);
        s.is(many.then("roll 0"), "hasByChains 7 0 0", 0);
        s.is(many.then("roll 0", "sign 6"), "hasByChains 7 0 0", 1);
        s.is(many.then("roll 6", "sign 48"), "hasByChains 7 255 8", 1);
        s.is(many.then("roll 6"), "hasByChains 7 255 8", 0);
        s.is(NEW.then("holder 0").times(50, "grant 1 1 0 0 99"), "hasByChains 1 0 0", 0);
        Run vain = NEW.then("holder 0", "holder 1", "grant 0 1 192 2 99", "grant 1 2 128 1 99");
        s.is(vain, "hasByChains 2 192 2", 0);
        s.is(vain.then("grant 1 2 192 2 99"), "hasByChains 2 192 2", 1);
    }

    private void state() {
        s.section("Promise 22: state");
        s.says("Returns how a block and a net are.");
        s.changesNothing(Runs.KINDS, "state 4 0 0", "state 0 0 8");

        s.says("`net`: 0 to 9");
        s.bounds(NEW, "state # 0 0", 0, 9, Due.INDEX);
        s.is(NEW.then("origin 0 9 0 0 0 9"), "state 9 0 0", Pathwarden.VALID);
        s.is(NEW.then("origin 0 9 0 0 0 9"), "state 0 0 0", Pathwarden.INVALID);

        s.says("`value`: 0 to 255: that of the block");
        s.bounds(NEW, "state 0 # 8", 0, 255, Due.ARGUMENT);
        s.is(NEW.then("origin 0 9 255 8 8 9"), "state 9 255 8", Pathwarden.VALID);
        s.is(NEW.then("origin 0 9 255 8 8 9"), "state 9 254 8", Pathwarden.NOT_FOUND);

        s.says("`length`: 0 to 8");
        s.bounds(NEW, "state 0 0 #", 0, 8, Due.ARGUMENT);
        s.is(NEW.then("origin 0 9 0 0 8 9"), "state 9 0 8", Pathwarden.VALID);
        s.is(NEW.then("origin 0 9 0 8 8 9"), "state 9 0 7", Pathwarden.NOT_FOUND);

        s.says("Returns NOT_FOUND, VALID or INVALID.");
        s.is("state 9 0 0", 0);
        s.is(NEW.then("origin 0 9 0 0 0 9"), "state 9 0 0", 1);
        s.is(NEW.then("origin 0 9 0 0 0 9"), "state 9 0 1", 2);
        s.is(NEW.times(50, "origin 0 9 0 0 8 9"), "state 9 0 8", 1);
        s.is(NEW.times(50, "origin 0 9 0 0 8 9"), "state 8 0 8", 2);
        s.is(NEW.times(49, "origin 0 9 0 0 8 9").then("origin 0 8 0 0 8 9"), "state 8 0 8", 1);
        s.is(NEW.then("origin 0 8 0 0 8 9").times(49, "origin 0 9 0 0 8 9"), "state 8 0 8", 1);

        s.says("Throws `IndexOutOfBoundsException` if there is no such net");
        s.refuses("state -1 0 0", Due.INDEX);
        s.refuses("state 10 0 0", Due.INDEX);

        s.says("Throws `IllegalArgumentException` if value or length is out of range, or the value has others than its first bits");
        s.firstBits(NEW, "state 0 # #", 0);
        s.refuses("state 0 255 7", Due.ARGUMENT);
        s.refuses("state 0 -1 8", Due.ARGUMENT);
        s.refuses("state 0 256 8", Due.ARGUMENT);
        s.refuses("state 0 0 -1", Due.ARGUMENT);
        s.refuses("state 0 0 9", Due.ARGUMENT);
    }
}
