/** Promises 20 to 22: has, hasByChains, state. */
public final class BlocksTest {
    private static final Due due = new Due("BlocksTest");

    public static void main(String[] args) {
        has();
        hasNoUnion();
        hasThrows();
        longChain();
        veryManyChains();
        oneChainInVain();
        state();
        stateOfSeveral();
        stateThrows();
        due.end();
    }

    private static void both(Pathwarden x, String what, boolean want, int holder, int value, int length) {
        due.is("20: " + what, Due.bit(want), () -> Due.bit(x.has(holder, value, length)));
        due.is("21: " + what, Due.bit(want), () -> Due.bit(x.hasByChains(holder, value, length)));
    }

    private static void has() {
        Pathwarden x = new Pathwarden();
        x.holder(0);
        x.holder(1);
        both(x, "without a grant", false, 1, 0, 8);
        both(x, "the holder 0", true, 0, 255, 8);
        x.grant(0, 1, 64, 2, 50);
        both(x, "the very block", true, 1, 64, 2);
        both(x, "a block in it", true, 1, 96, 3);
        both(x, "its last address", true, 1, 127, 8);
        both(x, "the address behind it", false, 1, 128, 8);
        both(x, "the address ahead of it", false, 1, 63, 8);
        both(x, "a wider block", false, 1, 0, 1);
        both(x, "all", false, 1, 0, 0);
        x.grant(1, 2, 64, 4, 20);
        x.grant(0, 2, 0, 0, 50);
        both(x, "by a chain", true, 2, 64, 4);
        both(x, "more than the chain tells", false, 2, 64, 3);
        x.roll(0);
        both(x, "a forged grant", false, 1, 64, 2);
        both(x, "below a forged grant", false, 2, 64, 4);
        x.sign(0);
        both(x, "signed anew", true, 2, 64, 4);
        x.revoke(0);
        both(x, "revoked, not listed", true, 2, 64, 4);
        x.publish(0, 100);
        both(x, "listed", false, 2, 64, 4);
        x.grant(0, 1, 0, 1, 100);
        both(x, "by another grant", true, 2, 64, 4);
        x.pass(21);
        both(x, "late", false, 2, 64, 4);
        both(x, "the one above is not", true, 1, 64, 4);
        x.grant(1, 2, 0, 1, 100);
        both(x, "again", true, 2, 64, 4);
        x.pass(10);
        both(x, "the list of 1 is stale", false, 2, 64, 4);
        both(x, "that of 0 is not", true, 1, 64, 4);
    }

    /** A block lies in one grant's block; two grants together do not make one. */
    private static void hasNoUnion() {
        Pathwarden x = new Pathwarden();
        x.holder(0);
        x.grant(0, 1, 0, 1, 10);
        x.grant(0, 1, 128, 1, 10);
        both(x, "one half", true, 1, 0, 1);
        both(x, "the other half", true, 1, 128, 1);
        both(x, "both halves", false, 1, 0, 0);
    }

    /** The wider grant to the holder 2 comes first, and leads to a grant that is too narrow for it alone. */
    private static void oneChainInVain() {
        Pathwarden x = new Pathwarden();
        x.holder(0);
        x.holder(1);
        x.grant(0, 1, 192, 2, 10);
        x.grant(1, 2, 128, 1, 10);
        both(x, "the first chain ends in vain", false, 2, 192, 2);
        x.grant(1, 2, 192, 2, 10);
        both(x, "the second chain goes over the same grant", true, 2, 192, 2);
    }

    private static void hasThrows() {
        Pathwarden x = new Pathwarden();
        int[][] wrong = {{256, 8}, {-1, 8}, {0, 9}, {0, -1}, {1, 0}, {1, 7}, {192, 1}, {Integer.MIN_VALUE, 0}};
        for (int[] block : wrong) {
            due.fails("20: block", Due.ARGUMENT, () -> Due.bit(x.has(0, block[0], block[1])));
            due.fails("21: block", Due.ARGUMENT, () -> Due.bit(x.hasByChains(0, block[0], block[1])));
            due.fails("20: holder ahead", Due.INDEX, () -> Due.bit(x.has(1, block[0], block[1])));
            due.fails("21: holder ahead", Due.INDEX, () -> Due.bit(x.hasByChains(1, block[0], block[1])));
        }
        due.fails("20: holder -1", Due.INDEX, () -> Due.bit(x.has(-1, 0, 0)));
        due.fails("21: holder -1", Due.INDEX, () -> Due.bit(x.hasByChains(-1, 0, 0)));
    }

    private static void longChain() {
        Pathwarden x = new Pathwarden();
        for (int h = 1; h < 8; h++) {
            x.holder(h - 1);
        }
        for (int h = 7; h > 0; h--) {
            x.grant(h - 1, h, 0, h, 100);
        }
        both(x, "the end of a line of 8", true, 7, 0, 7);
        both(x, "more than that", false, 7, 0, 6);
        x.alter(x.origin(0, 0, 0, 0, 0, 0), 1);
        x.roll(0);
        both(x, "nothing holds without the first one", false, 7, 0, 7);
        x.sign(6);
        both(x, "and with it all does", true, 7, 0, 7);
    }

    /** Seven grants each from a holder to the next one, the uppermost ones forged: 7 to the power of 7 chains. */
    private static void veryManyChains() {
        Pathwarden x = new Pathwarden();
        for (int h = 1; h < 8; h++) {
            x.holder(h - 1);
            for (int n = 0; n < 7; n++) {
                x.grant(h - 1, h, 0, 0, 100);
            }
        }
        x.roll(0);
        for (int n = 0; n < 200; n++) {
            both(x, "no chain comes to the end", false, 7, 0, 0);
        }
        x.sign(6);
        both(x, "one does", true, 7, 0, 0);
    }

    private static void is(Pathwarden x, String what, int want, int net, int value, int length) {
        due.is("22: " + what, want, () -> x.state(net, value, length));
    }

    private static void state() {
        Pathwarden x = new Pathwarden();
        is(x, "without an origin", Pathwarden.NOT_FOUND, 4, 128, 1);
        x.origin(0, 4, 128, 1, 3, 10);
        is(x, "its block", Pathwarden.VALID, 4, 128, 1);
        is(x, "of the length that the extra tells", Pathwarden.VALID, 4, 224, 3);
        is(x, "longer than that", Pathwarden.INVALID, 4, 224, 4);
        is(x, "another net", Pathwarden.INVALID, 5, 128, 1);
        is(x, "a wider block", Pathwarden.NOT_FOUND, 4, 0, 0);
        is(x, "a block beside it", Pathwarden.NOT_FOUND, 4, 0, 1);
        x.alter(0, 4);
        is(x, "forged", Pathwarden.NOT_FOUND, 4, 128, 1);
        x.sign(0);
        is(x, "altered and signed", Pathwarden.VALID, 4, 224, 4);
        x.pass(11);
        is(x, "late", Pathwarden.NOT_FOUND, 4, 128, 1);
        x.holder(0);
        x.origin(1, 4, 0, 1, 8, 100);
        is(x, "outside", Pathwarden.NOT_FOUND, 4, 0, 1);
        x.grant(0, 1, 0, 1, 100);
        is(x, "inside", Pathwarden.VALID, 4, 0, 1);
        is(x, "one address of it", Pathwarden.VALID, 4, 127, 8);
    }

    private static void stateOfSeveral() {
        Pathwarden x = new Pathwarden();
        x.origin(0, 4, 0, 0, 0, 10);
        x.origin(0, 5, 128, 1, 8, 10);
        x.origin(0, 4, 128, 2, 2, 10);
        x.origin(0, 6, 64, 2, 1, 10);
        is(x, "the extra of the first is too small", Pathwarden.INVALID, 4, 0, 1);
        is(x, "by the second", Pathwarden.VALID, 5, 128, 2);
        is(x, "by the third, the others speak against it", Pathwarden.VALID, 4, 128, 2);
        is(x, "too long for the third", Pathwarden.INVALID, 4, 128, 3);
        is(x, "the extra is less than its own length", Pathwarden.INVALID, 6, 64, 2);
        is(x, "all", Pathwarden.VALID, 4, 0, 0);
        is(x, "all, of another net", Pathwarden.INVALID, 0, 0, 0);
        x.revoke(2);
        x.publish(0, 5);
        is(x, "the third is revoked", Pathwarden.INVALID, 4, 128, 2);
        x.pass(6);
        is(x, "the list is stale", Pathwarden.NOT_FOUND, 4, 128, 2);
    }

    private static void stateThrows() {
        Pathwarden x = new Pathwarden();
        due.fails("22: net 10", Due.INDEX, () -> x.state(10, 256, 0));
        due.fails("22: net -1", Due.INDEX, () -> x.state(-1, 0, 0));
        due.fails("22: value 256", Due.ARGUMENT, () -> x.state(0, 256, 8));
        due.fails("22: value -1", Due.ARGUMENT, () -> x.state(0, -1, 8));
        due.fails("22: length 9", Due.ARGUMENT, () -> x.state(0, 0, 9));
        due.fails("22: length -1", Due.ARGUMENT, () -> x.state(0, 0, -1));
        due.fails("22: other bits", Due.ARGUMENT, () -> x.state(0, 3, 7));
        is(x, "net 9", Pathwarden.NOT_FOUND, 9, 255, 8);
    }
}
