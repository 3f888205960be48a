/** Promises 7 to 12, 18 and 19: grant, origin, vouch, revoke, alter, sign, objects, judged. */
public final class ObjectsTest {
    private static final Due due = new Due("ObjectsTest");

    public static void main(String[] args) {
        grant();
        grantThrows();
        origin();
        originThrows();
        vouch();
        vouchThrows();
        fiftyObjects();
        revoke();
        alter();
        alterThrows();
        sign();
        orderOfVerdicts();
        due.end();
    }

    /** Three holders in a line, each with a block in that of its parent: objects 0 and 1. */
    private static Pathwarden line() {
        Pathwarden x = new Pathwarden();
        x.holder(0);
        x.holder(1);
        x.grant(0, 1, 128, 1, 1000);
        x.grant(1, 2, 160, 3, 1000);
        return x;
    }

    private static void grant() {
        Pathwarden x = line();
        due.is("7: number", 2, () -> x.grant(0, 1, 0, 0, 0));
        due.is("18: three", 3, x::objects);
        due.is("19: a good chain", Pathwarden.GOOD, () -> x.judged(1));
        x.grant(1, 2, 0, 1, 10);
        due.is("19: a block outside of 128/1, inside of 0/0", Pathwarden.GOOD, () -> x.judged(3));
        x.pass(1);
        due.is("7: the last day was today and 0", Pathwarden.LATE, () -> x.judged(2));
        due.is("19: nothing above it any more", Pathwarden.OUTSIDE, () -> x.judged(3));
        x.grant(0, 2, 160, 3, 10);
        due.is("19: the issuer is not the parent", Pathwarden.OUTSIDE, () -> x.judged(4));
        x.grant(0, 0, 0, 0, 10);
        due.is("19: to the holder 0, which has no parent", Pathwarden.OUTSIDE, () -> x.judged(5));
        x.grant(2, 1, 160, 3, 10);
        due.is("19: to the parent", Pathwarden.OUTSIDE, () -> x.judged(6));
        x.grant(1, 1, 160, 3, 10);
        due.is("19: to itself", Pathwarden.OUTSIDE, () -> x.judged(7));
        x.grant(1, 2, 128, 1, 10);
        due.is("19: the very block of the issuer", Pathwarden.GOOD, () -> x.judged(8));
        x.grant(1, 2, 0, 0, 10);
        due.is("19: more than the block of the issuer", Pathwarden.OUTSIDE, () -> x.judged(9));
        x.grant(1, 2, 255, 8, 10);
        due.is("19: one address", Pathwarden.GOOD, () -> x.judged(10));
        x.grant(1, 2, 127, 8, 10);
        due.is("19: the address ahead of the block", Pathwarden.OUTSIDE, () -> x.judged(11));
        due.is("18: twelve", 12, x::objects);
    }

    private static void grantThrows() {
        Pathwarden x = line();
        due.fails("7: issuer 3", Due.INDEX, () -> x.grant(3, 0, 0, 0, 0));
        due.fails("7: issuer -1", Due.INDEX, () -> x.grant(-1, 0, 0, 0, 0));
        due.fails("7: whom 3, ahead of the block", Due.INDEX, () -> x.grant(0, 3, 256, 9, -1));
        due.fails("7: whom -1", Due.INDEX, () -> x.grant(0, -1, 0, 0, 0));
        due.fails("7: value 256", Due.ARGUMENT, () -> x.grant(0, 1, 256, 8, 0));
        due.fails("7: value -1", Due.ARGUMENT, () -> x.grant(0, 1, -1, 8, 0));
        due.fails("7: length 9", Due.ARGUMENT, () -> x.grant(0, 1, 0, 9, 0));
        due.fails("7: length -1", Due.ARGUMENT, () -> x.grant(0, 1, 0, -1, 0));
        due.fails("7: days 1001", Due.ARGUMENT, () -> x.grant(0, 1, 0, 0, 1001));
        due.fails("7: days -1", Due.ARGUMENT, () -> x.grant(0, 1, 0, 0, -1));
        for (int length = 0; length < 8; length++) {
            int one = length;
            int last = 128 >> length;
            due.fails("7: a bit behind the first " + length, Due.ARGUMENT, () -> x.grant(0, 1, last, one, 0));
            due.fails("7: the last bit of 8", Due.ARGUMENT, () -> x.grant(0, 1, 1, one, 0));
            due.is("7: the last of the first bits", 2 + length, () -> x.grant(0, 1, last, one + 1, 0));
        }
        due.is("18: those alone that did not throw", 10, x::objects);
    }

    private static void origin() {
        Pathwarden x = line();
        due.is("8: number", 2, () -> x.origin(2, 9, 160, 3, 0, 1));
        due.is("19: good", Pathwarden.GOOD, () -> x.judged(2));
        x.origin(2, 9, 128, 1, 0, 1);
        due.is("19: more than the issuer has", Pathwarden.OUTSIDE, () -> x.judged(3));
        x.origin(0, 9, 128, 1, 0, 1);
        due.is("19: the holder 0 has all", Pathwarden.GOOD, () -> x.judged(4));
        x.origin(1, 0, 160, 4, 0, 1);
        due.is("19: for a net of another holder", Pathwarden.GOOD, () -> x.judged(5));
        x.pass(1);
        due.is("19: on its last day", Pathwarden.GOOD, () -> x.judged(2));
        x.pass(1);
        due.is("19: behind its last day", Pathwarden.LATE, () -> x.judged(2));
    }

    private static void originThrows() {
        Pathwarden x = line();
        due.fails("8: issuer 3", Due.INDEX, () -> x.origin(3, 0, 0, 0, 9, 0));
        due.fails("8: issuer -1", Due.INDEX, () -> x.origin(-1, 0, 0, 0, 0, 0));
        due.fails("8: net 10", Due.INDEX, () -> x.origin(0, 10, 256, 0, 0, 0));
        due.fails("8: net -1", Due.INDEX, () -> x.origin(0, -1, 0, 0, 0, 0));
        due.fails("8: value 256", Due.ARGUMENT, () -> x.origin(0, 0, 256, 8, 8, 0));
        due.fails("8: value -128", Due.ARGUMENT, () -> x.origin(0, 0, -128, 1, 8, 0));
        due.fails("8: length 9", Due.ARGUMENT, () -> x.origin(0, 0, 0, 9, 8, 0));
        due.fails("8: length -1", Due.ARGUMENT, () -> x.origin(0, 0, 0, -1, 8, 0));
        due.fails("8: other bits", Due.ARGUMENT, () -> x.origin(0, 0, 192, 1, 8, 0));
        due.fails("8: most 9", Due.ARGUMENT, () -> x.origin(0, 0, 0, 0, 9, 0));
        due.fails("8: most -1", Due.ARGUMENT, () -> x.origin(0, 0, 0, 0, -1, 0));
        due.fails("8: days 1001", Due.ARGUMENT, () -> x.origin(0, 0, 0, 0, 0, 1001));
        due.fails("8: days -1", Due.ARGUMENT, () -> x.origin(0, 0, 0, 0, 0, -1));
        due.is("18: two as before", 2, x::objects);
        due.is("8: the greatest of all", 2, () -> x.origin(2, 9, 255, 8, 8, 1000));
    }

    private static void vouch() {
        Pathwarden x = line();
        due.is("9: number", 2, () -> x.vouch(0, 5, 1023, 3));
        due.is("19: good", Pathwarden.GOOD, () -> x.judged(2));
        x.holder(2);
        x.belong(6, 3);
        x.vouch(3, 6, 0, 3);
        due.is("19: the issuer has no block", Pathwarden.OUTSIDE, () -> x.judged(3));
        x.grant(2, 3, 0, 8, 3);
        due.is("19: nor by a grant that is not good", Pathwarden.OUTSIDE, () -> x.judged(3));
        x.grant(2, 3, 160, 8, 2);
        due.is("19: it has some block", Pathwarden.GOOD, () -> x.judged(3));
        x.belong(6, 2);
        due.is("19: the net is of another one", Pathwarden.OUTSIDE, () -> x.judged(3));
        x.belong(6, 3);
        x.pass(3);
        due.is("19: its last day", Pathwarden.GOOD, () -> x.judged(2));
        due.is("19: the grant is late", Pathwarden.OUTSIDE, () -> x.judged(3));
        x.pass(1);
        due.is("19: both are late", Pathwarden.LATE, () -> x.judged(3));
    }

    private static void vouchThrows() {
        Pathwarden x = line();
        due.fails("9: issuer 3", Due.INDEX, () -> x.vouch(3, 0, 1024, 0));
        due.fails("9: issuer -1", Due.INDEX, () -> x.vouch(-1, 0, 0, 0));
        due.fails("9: net 10", Due.INDEX, () -> x.vouch(0, 10, 0, 1001));
        due.fails("9: net -1", Due.INDEX, () -> x.vouch(0, -1, 0, 0));
        due.fails("9: providers 1024", Due.ARGUMENT, () -> x.vouch(0, 0, 1024, 0));
        due.fails("9: providers -1", Due.ARGUMENT, () -> x.vouch(0, 0, -1, 0));
        due.fails("9: days 1001", Due.ARGUMENT, () -> x.vouch(0, 0, 0, 1001));
        due.fails("9: days -1", Due.ARGUMENT, () -> x.vouch(0, 0, 0, -1));
        due.is("18: two as before", 2, x::objects);
        due.is("9: the greatest of all", 2, () -> x.vouch(2, 9, 1023, 1000));
    }

    private static void fiftyObjects() {
        Pathwarden x = new Pathwarden();
        for (int n = 0; n < 50; n++) {
            int want = n;
            due.is("18: objects", want, x::objects);
            due.is("7, 8, 9: number", want, () -> want % 3 == 0 ? x.grant(0, 0, 0, 0, 0)
                    : want % 3 == 1 ? x.origin(0, 0, 0, 0, 0, 0) : x.vouch(0, 0, 0, 0));
        }
        due.fails("7: there are 50", Due.STATE, () -> x.grant(0, 0, 0, 0, 0));
        due.fails("8: there are 50", Due.STATE, () -> x.origin(0, 0, 0, 0, 0, 0));
        due.fails("9: there are 50", Due.STATE, () -> x.vouch(0, 0, 0, 0));
        due.fails("7: the holder ahead of that", Due.INDEX, () -> x.grant(1, 0, 0, 0, 0));
        due.fails("7: the range ahead of that", Due.ARGUMENT, () -> x.grant(0, 0, 0, 0, 1001));
        due.fails("8: the net ahead of that", Due.INDEX, () -> x.origin(0, 10, 0, 0, 0, 0));
        due.fails("8: the range ahead of that", Due.ARGUMENT, () -> x.origin(0, 0, 0, 0, 9, 0));
        due.fails("9: the net ahead of that", Due.INDEX, () -> x.vouch(0, 10, 0, 0));
        due.fails("9: the range ahead of that", Due.ARGUMENT, () -> x.vouch(0, 0, 1024, 0));
        due.is("18: fifty", 50, x::objects);
        due.is("19: the last one", Pathwarden.GOOD, () -> x.judged(49));
        due.fails("19: none behind it", Due.INDEX, () -> x.judged(50));
    }

    private static void revoke() {
        Pathwarden x = line();
        due.fails("10: no object 2", Due.INDEX, () -> Due.bit(x.revoke(2)));
        due.fails("10: no object -1", Due.INDEX, () -> Due.bit(x.revoke(-1)));
        due.is("10: not so far", 1, () -> Due.bit(x.revoke(0)));
        due.is("10: it is already", 0, () -> Due.bit(x.revoke(0)));
        due.is("19: not on a list yet", Pathwarden.GOOD, () -> x.judged(0));
        x.publish(1, 100);
        due.is("19: the list of another is nothing to it", Pathwarden.GOOD, () -> x.judged(0));
        x.publish(0, 100);
        due.is("19: on the list", Pathwarden.REVOKED, () -> x.judged(0));
        due.is("10: it is already, on the list", 0, () -> Due.bit(x.revoke(0)));
        x.sign(0);
        due.is("19: on the list, though signed", Pathwarden.REVOKED, () -> x.judged(0));
        due.is("19: those below it", Pathwarden.OUTSIDE, () -> x.judged(1));
        due.is("10: another one", 1, () -> Due.bit(x.revoke(1)));
        due.is("19: the list came ahead of that", Pathwarden.OUTSIDE, () -> x.judged(1));
    }

    private static void alter() {
        Pathwarden x = line();
        x.origin(0, 0, 0, 0, 3, 10);
        x.vouch(0, 0, 5, 10);
        due.is("11: of an origin", 3, () -> x.alter(2, 8));
        due.is("19: not signed by that", Pathwarden.FORGED, () -> x.judged(2));
        due.is("11: it had", 8, () -> x.alter(2, 0));
        due.is("11: it had", 0, () -> x.alter(2, 3));
        due.is("19: as it was signed", Pathwarden.GOOD, () -> x.judged(2));
        due.is("11: of a voucher", 5, () -> x.alter(3, 1023));
        due.is("19: not signed by that", Pathwarden.FORGED, () -> x.judged(3));
        x.sign(3);
        due.is("19: signed anew", Pathwarden.GOOD, () -> x.judged(3));
        due.is("11: it had", 1023, () -> x.alter(3, 0));
        due.is("19: of the other nothing changed", Pathwarden.GOOD, () -> x.judged(2));
    }

    private static void alterThrows() {
        Pathwarden x = line();
        x.origin(0, 0, 0, 0, 3, 10);
        x.vouch(0, 0, 5, 10);
        due.fails("11: no object 4", Due.INDEX, () -> x.alter(4, 0));
        due.fails("11: no object -1", Due.INDEX, () -> x.alter(-1, -1));
        due.fails("11: a grant", Due.STATE, () -> x.alter(0, 0));
        due.fails("11: a grant, ahead of the range", Due.STATE, () -> x.alter(0, -1));
        due.fails("11: 9 for an origin", Due.ARGUMENT, () -> x.alter(2, 9));
        due.fails("11: -1 for an origin", Due.ARGUMENT, () -> x.alter(2, -1));
        due.fails("11: 1024 for a voucher", Due.ARGUMENT, () -> x.alter(3, 1024));
        due.fails("11: -1 for a voucher", Due.ARGUMENT, () -> x.alter(3, -1));
        due.is("11: as it was", 3, () -> x.alter(2, 3));
        due.is("11: as it was", 5, () -> x.alter(3, 5));
    }

    /** The signature as the document's words tell it. */
    private static long signature(long issuer, long key, long... numbers) {
        long d = 0;
        for (long number : numbers) {
            d = (263 * d + number + 1) % 65521;
        }
        return (31 * d + 7919 * (101 * issuer + 17 * key)) % 65521;
    }

    private static void sign() {
        Pathwarden x = line();
        x.pass(7);
        due.fails("12: no object 2", Due.INDEX, () -> x.sign(2));
        due.fails("12: no object -1", Due.INDEX, () -> x.sign(-1));
        due.is("12: a grant", signature(1, 0, 0, 1, 2, 160, 3, 0, 1000), () -> x.sign(1));
        for (int key = 1; key <= 100; key++) {
            long want = signature(1, key, 0, 1, 2, 160, 3, 0, 1000);
            x.roll(1);
            due.is("19: by the key ahead of it", Pathwarden.FORGED, () -> x.judged(1));
            due.is("12: a grant, rolled", want, () -> x.sign(1));
            due.is("19: signed anew", Pathwarden.GOOD, () -> x.judged(1));
        }
        x.origin(2, 9, 176, 4, 7, 1000);
        due.is("12: an origin", signature(2, 0, 1, 2, 9, 176, 4, 7, 1007), () -> x.sign(2));
        due.is("12: the same again", signature(2, 0, 1, 2, 9, 176, 4, 7, 1007), () -> x.sign(2));
        x.vouch(1, 8, 1023, 0);
        due.is("12: a voucher", signature(1, 100, 2, 1, 8, 0, 0, 1023, 7), () -> x.sign(3));
        x.alter(3, 77);
        due.is("12: an altered voucher", signature(1, 100, 2, 1, 8, 0, 0, 77, 7), () -> x.sign(3));
        due.is("12: known from the shared test", 11528, ObjectsTest::sharedSignature);
    }

    private static long sharedSignature() {
        Pathwarden x = new Pathwarden();
        x.holder(0);
        x.holder(1);
        x.grant(0, 1, 128, 1, 50);
        x.grant(1, 2, 192, 2, 40);
        x.roll(1);
        return x.sign(1);
    }

    /** An object with all faults loses one after the other. */
    private static void orderOfVerdicts() {
        Pathwarden x = new Pathwarden();
        x.holder(0);
        x.origin(1, 0, 0, 0, 2, 40);
        x.alter(0, 3);
        x.revoke(0);
        due.is("19: FORGED ahead of OUTSIDE", Pathwarden.FORGED, () -> x.judged(0));
        x.pass(31);
        due.is("19: STALE ahead of FORGED", Pathwarden.STALE, () -> x.judged(0));
        x.publish(1, 2);
        due.is("19: REVOKED ahead of FORGED", Pathwarden.REVOKED, () -> x.judged(0));
        x.pass(3);
        due.is("19: REVOKED ahead of STALE", Pathwarden.REVOKED, () -> x.judged(0));
        x.pass(7);
        due.is("19: LATE ahead of REVOKED", Pathwarden.LATE, () -> x.judged(0));
        x.origin(1, 0, 0, 0, 2, 40);
        x.publish(1, 2);
        due.is("19: OUTSIDE alone", Pathwarden.OUTSIDE, () -> x.judged(1));
        due.fails("19: no object 2", Due.INDEX, () -> x.judged(2));
        due.fails("19: no object -1", Due.INDEX, () -> x.judged(-1));
    }
}
