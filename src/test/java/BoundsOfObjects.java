/** The sentences of promises 7 to 12, 18 and 19, which tell of objects. */
final class BoundsOfObjects {
    private static final Run NEW = Run.NEW;
    private static final Run EIGHT = Runs.EIGHT;
    private static final Run KINDS = Runs.KINDS;

    /** Grants 0 to 15, which are outside, origins 16 to 32 and vouchers 33 to 49. */
    private static final Run FIFTY = NEW.times(16, "grant 0 0 128 1 1000")
            .times(17, "origin 0 3 128 1 8 1000").times(17, "vouch 0 9 1023 1000");

    private final Sentences s;

    private BoundsOfObjects(Sentences s) {
        this.s = s;
    }

    static void tell(Sentences s) {
        BoundsOfObjects all = new BoundsOfObjects(s);
        all.grant();
        all.origin();
        all.vouch();
        all.revoke();
        all.alter();
        all.sign();
        all.objects();
        all.judged();
    }

    private void lastDays(String callWithoutDays) {
        for (int days : new int[] {0, 1, 999, 1000}) {
            Run run = NEW.then("holder 0", callWithoutDays + days);
            s.is(run.days(days).then("publish 0 0"), "judged 0", Pathwarden.GOOD);
            s.is(run.days(days + 1).then("publish 0 0"), "judged 0", Pathwarden.LATE);
        }
    }

    private void grant() {
        s.section("Promise 7: grant");
        s.says("Signs a grant.");
        s.is(EIGHT.then("grant 0 7 255 8 0"), "sign 0", Runs.signature(0, 0, 0, 0, 7, 255, 8, 0, 0));
        s.is(EIGHT.then("roll 0", "grant 0 7 255 8 0"), "judged 0", Pathwarden.GOOD);
        s.is(EIGHT.then("roll 0", "grant 0 7 255 8 0"), "sign 0", Runs.signature(0, 1, 0, 0, 7, 255, 8, 0, 0));

        s.says("`issuer`: a holder");
        s.bounds(EIGHT, "grant # 0 0 0 0", 0, 7, Due.INDEX);
        s.bounds(NEW, "grant # 0 0 0 0", 0, 0, Due.INDEX);

        s.says("`whom`: a holder");
        s.bounds(EIGHT, "grant 0 # 0 0 0", 0, 7, Due.INDEX);
        s.bounds(NEW, "grant 0 # 0 0 0", 0, 0, Due.INDEX);

        s.says("`value`: 0 to 255: that of the block");
        s.bounds(NEW, "grant 0 0 # 8 0", 0, 255, Due.ARGUMENT);
        s.is(NEW.then("holder 0", "grant 0 1 255 8 9"), "has 1 255 8", 1);
        s.is(NEW.then("holder 0", "grant 0 1 255 8 9"), "has 1 254 8", 0);
        s.is(NEW.then("holder 0", "grant 0 1 0 8 9"), "has 1 0 8", 1);
        s.is(NEW.then("holder 0", "grant 0 1 0 8 9"), "has 1 1 8", 0);

        s.says("`length`: 0 to 8");
        s.bounds(NEW, "grant 0 0 0 # 0", 0, 8, Due.ARGUMENT);
        s.is(NEW.then("holder 0", "grant 0 1 0 0 9"), "has 1 0 0", 1);
        s.is(NEW.then("holder 0", "grant 0 1 0 1 9"), "has 1 0 0", 0);
        s.is(NEW.then("holder 0", "grant 0 1 0 7 9"), "has 1 1 8", 1);

        s.says("`days`: 0 to 1000: its last day is today and so many days");
        s.bounds(NEW, "grant 0 0 0 0 #", 0, 1000, Due.ARGUMENT);
        lastDays("grant 0 1 0 0 ");
        s.is(NEW.days(10000).then("grant 0 0 0 0 1000"), "sign 0", Runs.signature(0, 0, 0, 0, 0, 0, 0, 0, 11000));
        s.is(NEW.days(10000).then("grant 0 0 0 0 0"), "sign 0", Runs.signature(0, 0, 0, 0, 0, 0, 0, 0, 10000));

        s.says("Returns the number of the object.");
        s.is("grant 0 0 0 0 0", 0);
        s.is(KINDS, "grant 0 0 0 0 0", 3);
        s.is(NEW.then("?grant 0 0 0 0 1001", "?grant 0 1 0 0 0"), "grant 0 0 0 0 0", 0);
        s.is(NEW.times(49, "vouch 0 0 0 0"), "grant 0 0 0 0 0", 49);

        s.says("Throws `IndexOutOfBoundsException` if there is no such holder, of either");
        s.refuses("grant -1 0 0 0 0", Due.INDEX);
        s.refuses("grant 1 0 0 0 0", Due.INDEX);
        s.refuses("grant 0 -1 0 0 0", Due.INDEX);
        s.refuses("grant 0 1 0 0 0", Due.INDEX);
        s.refuses(EIGHT, "grant 8 8 0 0 0", Due.INDEX);

        s.says("Throws `IllegalArgumentException` if value, length or days is out of range, or the value has others than its first bits");
        s.firstBits(NEW, "grant 0 0 # # 0", 0);
        s.refuses("grant 0 0 255 7 0", Due.ARGUMENT);
        s.refuses("grant 0 0 -1 8 0", Due.ARGUMENT);
        s.refuses("grant 0 0 256 8 0", Due.ARGUMENT);
        s.refuses("grant 0 0 0 -1 0", Due.ARGUMENT);
        s.refuses("grant 0 0 0 9 0", Due.ARGUMENT);
        s.refuses("grant 0 0 0 0 -1", Due.ARGUMENT);
        s.refuses("grant 0 0 0 0 1001", Due.ARGUMENT);

        s.says("Throws `IllegalStateException` if there are 50");
        s.is(NEW.times(49, "grant 0 0 0 0 0"), "grant 0 0 0 0 0", 49);
        s.refuses(NEW.times(50, "grant 0 0 0 0 0"), "grant 0 0 0 0 0", Due.STATE);
        s.refuses(FIFTY, "grant 0 0 0 0 0", Due.STATE);
        s.refuses(FIFTY.days(10000), "grant 0 0 0 0 1000", Due.STATE);
    }

    private void origin() {
        s.section("Promise 8: origin");
        s.says("Signs an origin.");
        s.is(NEW.then("origin 0 9 255 8 8 0"), "sign 0", Runs.signature(0, 0, 1, 0, 9, 255, 8, 8, 0));
        s.is(NEW.then("roll 0", "origin 0 9 255 8 8 0"), "judged 0", Pathwarden.GOOD);
        s.is(NEW.then("roll 0", "origin 0 9 255 8 8 0"), "sign 0", Runs.signature(0, 1, 1, 0, 9, 255, 8, 8, 0));

        s.says("`issuer`: a holder");
        s.bounds(EIGHT, "origin # 0 0 0 0 0", 0, 7, Due.INDEX);
        s.bounds(NEW, "origin # 0 0 0 0 0", 0, 0, Due.INDEX);

        s.says("`net`: 0 to 9");
        s.bounds(NEW, "origin 0 # 0 0 0 0", 0, 9, Due.INDEX);
        s.is(NEW.then("origin 0 9 0 0 0 0"), "state 9 0 0", Pathwarden.VALID);
        s.is(NEW.then("origin 0 0 0 0 0 0"), "state 0 0 0", Pathwarden.VALID);

        s.says("`value`: 0 to 255: that of the block");
        s.bounds(NEW, "origin 0 0 # 8 0 0", 0, 255, Due.ARGUMENT);
        s.is(NEW.then("origin 0 0 255 8 8 0"), "state 0 255 8", Pathwarden.VALID);
        s.is(NEW.then("origin 0 0 255 8 8 0"), "state 0 254 8", Pathwarden.NOT_FOUND);
        s.is(NEW.then("origin 0 0 0 8 8 0"), "state 0 0 8", Pathwarden.VALID);
        s.is(NEW.then("origin 0 0 0 8 8 0"), "state 0 1 8", Pathwarden.NOT_FOUND);

        s.says("`length`: 0 to 8");
        s.bounds(NEW, "origin 0 0 0 # 0 0", 0, 8, Due.ARGUMENT);
        s.is(NEW.then("origin 0 0 0 0 8 0"), "state 0 255 8", Pathwarden.VALID);
        s.is(NEW.then("origin 0 0 0 7 8 0"), "state 0 1 8", Pathwarden.VALID);
        s.is(NEW.then("origin 0 0 0 7 8 0"), "state 0 0 6", Pathwarden.NOT_FOUND);

        s.says("`most`: 0 to 8: its extra");
        s.bounds(NEW, "origin 0 0 0 0 # 0", 0, 8, Due.ARGUMENT);
        s.is(NEW.then("origin 0 0 0 0 0 0"), "alter 0 8", 0);
        s.is(NEW.then("origin 0 0 0 0 8 0"), "alter 0 0", 8);
        s.is(NEW.then("origin 0 0 0 0 7 0"), "state 0 0 7", Pathwarden.VALID);
        s.is(NEW.then("origin 0 0 0 0 7 0"), "state 0 0 8", Pathwarden.INVALID);

        s.says("`days`: 0 to 1000: its last day is today and so many days");
        s.bounds(NEW, "origin 0 0 0 0 0 #", 0, 1000, Due.ARGUMENT);
        lastDays("origin 0 0 0 0 0 ");
        s.is(NEW.days(10000).then("origin 0 0 0 0 0 1000"), "sign 0", Runs.signature(0, 0, 1, 0, 0, 0, 0, 0, 11000));

        s.says("Returns the number of the object.");
        s.is("origin 0 0 0 0 0 0", 0);
        s.is(KINDS, "origin 0 0 0 0 0 0", 3);
        s.is(NEW.then("?origin 0 0 0 0 9 0", "?origin 0 10 0 0 0 0"), "origin 0 0 0 0 0 0", 0);
        s.is(NEW.times(49, "grant 0 0 0 0 0"), "origin 0 0 0 0 0 0", 49);

        s.says("Throws `IndexOutOfBoundsException` if there is no such holder or net");
        s.refuses("origin -1 0 0 0 0 0", Due.INDEX);
        s.refuses("origin 1 0 0 0 0 0", Due.INDEX);
        s.refuses("origin 0 -1 0 0 0 0", Due.INDEX);
        s.refuses("origin 0 10 0 0 0 0", Due.INDEX);
        s.refuses(EIGHT, "origin 8 10 0 0 0 0", Due.INDEX);

        s.says("Throws `IllegalArgumentException` if value, length, most or days is out of range, or the value has others than its first bits");
        s.firstBits(NEW, "origin 0 0 # # 0 0", 0);
        s.refuses("origin 0 0 255 7 8 0", Due.ARGUMENT);
        s.refuses("origin 0 0 -1 8 8 0", Due.ARGUMENT);
        s.refuses("origin 0 0 256 8 8 0", Due.ARGUMENT);
        s.refuses("origin 0 0 0 -1 8 0", Due.ARGUMENT);
        s.refuses("origin 0 0 0 9 8 0", Due.ARGUMENT);
        s.refuses("origin 0 0 0 0 -1 0", Due.ARGUMENT);
        s.refuses("origin 0 0 0 0 9 0", Due.ARGUMENT);
        s.refuses("origin 0 0 0 0 0 -1", Due.ARGUMENT);
        s.refuses("origin 0 0 0 0 0 1001", Due.ARGUMENT);

        s.says("Throws `IllegalStateException` if there are 50");
        s.is(NEW.times(49, "origin 0 0 0 0 0 0"), "origin 0 0 0 0 0 0", 49);
        s.refuses(NEW.times(50, "origin 0 0 0 0 0 0"), "origin 0 0 0 0 0 0", Due.STATE);
        s.refuses(FIFTY, "origin 0 0 0 0 0 0", Due.STATE);
    }

    private void vouch() {
        s.section("Promise 9: vouch");
        s.says("Signs a voucher.");
        s.is(NEW.then("vouch 0 9 1023 0"), "sign 0", Runs.signature(0, 0, 2, 0, 9, 0, 0, 1023, 0));
        s.is(NEW.then("roll 0", "vouch 0 9 1023 0"), "judged 0", Pathwarden.GOOD);
        s.is(NEW.then("roll 0", "vouch 0 9 1023 0"), "sign 0", Runs.signature(0, 1, 2, 0, 9, 0, 0, 1023, 0));

        s.says("`issuer`: a holder");
        s.bounds(EIGHT, "vouch # 0 0 0", 0, 7, Due.INDEX);
        s.bounds(NEW, "vouch # 0 0 0", 0, 0, Due.INDEX);

        s.says("`net`: 0 to 9");
        s.bounds(NEW, "vouch 0 # 0 0", 0, 9, Due.INDEX);

        s.says("`providers`: 0 to 1023: its extra");
        s.bounds(NEW, "vouch 0 0 # 0", 0, 1023, Due.ARGUMENT);
        s.is(NEW.then("vouch 0 0 0 0"), "alter 0 1023", 0);
        s.is(NEW.then("vouch 0 0 1023 0"), "alter 0 0", 1023);
        s.is(NEW.heard("0 0", 0, 9).then("vouch 0 0 1023 0"), "path 0 1", Pathwarden.VALID);
        s.is(NEW.heard("0 0", 0, 9).then("vouch 0 0 0 0"), "path 0 1", Pathwarden.INVALID);

        s.says("`days`: 0 to 1000: its last day is today and so many days");
        s.bounds(NEW, "vouch 0 0 0 #", 0, 1000, Due.ARGUMENT);
        lastDays("vouch 0 0 0 ");
        s.is(NEW.days(10000).then("vouch 0 0 0 1000"), "sign 0", Runs.signature(0, 0, 2, 0, 0, 0, 0, 0, 11000));

        s.says("Returns the number of the object.");
        s.is("vouch 0 0 0 0", 0);
        s.is(KINDS, "vouch 0 0 0 0", 3);
        s.is(NEW.then("?vouch 0 0 1024 0", "?vouch 0 10 0 0"), "vouch 0 0 0 0", 0);
        s.is(NEW.times(49, "origin 0 0 0 0 0 0"), "vouch 0 0 0 0", 49);

        s.says("Throws `IndexOutOfBoundsException` if there is no such holder or net");
        s.refuses("vouch -1 0 0 0", Due.INDEX);
        s.refuses("vouch 1 0 0 0", Due.INDEX);
        s.refuses("vouch 0 -1 0 0", Due.INDEX);
        s.refuses("vouch 0 10 0 0", Due.INDEX);
        s.refuses(EIGHT, "vouch 8 10 0 0", Due.INDEX);

        s.says("Throws `IllegalArgumentException` if providers or days is out of range");
        s.refuses("vouch 0 0 -1 0", Due.ARGUMENT);
        s.refuses("vouch 0 0 1024 0", Due.ARGUMENT);
        s.refuses("vouch 0 0 0 -1", Due.ARGUMENT);
        s.refuses("vouch 0 0 0 1001", Due.ARGUMENT);

        s.says("Throws `IllegalStateException` if there are 50");
        s.is(NEW.times(49, "vouch 0 0 0 0"), "vouch 0 0 0 0", 49);
        s.refuses(NEW.times(50, "vouch 0 0 0 0"), "vouch 0 0 0 0", Due.STATE);
        s.refuses(FIFTY, "vouch 0 0 0 0", Due.STATE);
    }

    private void revoke() {
        s.section("Promise 10: revoke");
        s.says("Revokes an object.");
        for (int object = 0; object < 3; object++) {
            s.is(KINDS.then("revoke " + object, "publish 0 0"), "judged " + object, Pathwarden.REVOKED);
            s.is(KINDS.then("revoke " + (object + 1) % 3, "publish 0 0"), "judged " + object, Pathwarden.GOOD);
        }
        s.is(FIFTY.then("revoke 49", "publish 0 0"), "judged 49", Pathwarden.REVOKED);
        s.is(FIFTY.then("revoke 49", "publish 0 0"), "judged 48", Pathwarden.GOOD);

        s.says("`object`: its number");
        s.bounds(KINDS, "revoke #", 0, 2, Due.INDEX);
        s.bounds(FIFTY, "revoke #", 0, 49, Due.INDEX);

        s.says("Returns whether it was not revoked so far.");
        s.is(KINDS, "revoke 0", 1);
        s.is(KINDS.then("revoke 0"), "revoke 0", 0);
        s.is(KINDS.then("revoke 0"), "revoke 1", 1);
        s.is(KINDS.then("revoke 0", "revoke 0"), "revoke 0", 0);
        s.is(KINDS.then("revoke 0", "publish 0 0"), "revoke 0", 0);
        s.is(KINDS.then("revoke 0", "publish 0 0", "sign 0"), "revoke 0", 0);
        s.is(FIFTY, "revoke 49", 1);
        s.is(FIFTY.then("revoke 49"), "revoke 49", 0);

        s.says("Throws `IndexOutOfBoundsException` if there is no such object");
        s.refuses("revoke 0", Due.INDEX);
        s.refuses(KINDS, "revoke 3", Due.INDEX);
        s.refuses(KINDS, "revoke -1", Due.INDEX);
        s.refuses(FIFTY, "revoke 50", Due.INDEX);
        s.is(NEW.then("?revoke 0", "origin 0 0 0 0 0 0"), "revoke 0", 1);
    }

    private void alter() {
        s.section("Promise 11: alter");
        s.says("Alters the extra of an object, which is not signed by that.");
        s.is(KINDS.then("alter 1 4"), "judged 1", Pathwarden.FORGED);
        s.is(KINDS.then("alter 1 4"), "judged 2", Pathwarden.GOOD);
        s.is(KINDS.then("alter 1 3"), "judged 1", Pathwarden.GOOD);
        s.is(KINDS.then("alter 2 7"), "judged 2", Pathwarden.FORGED);
        s.is(KINDS.then("alter 2 6"), "judged 2", Pathwarden.GOOD);

        s.says("`object`: its number");
        s.bounds(NEW.times(2, "origin 0 0 0 0 0 0"), "alter # 0", 0, 1, Due.INDEX);
        s.bounds(NEW.times(50, "vouch 0 0 0 0"), "alter # 0", 0, 49, Due.INDEX);

        s.says("`extra`: 0 to 8 for an origin, 0 to 1023 for a voucher");
        s.bounds(KINDS, "alter 1 #", 0, 8, Due.ARGUMENT);
        s.bounds(KINDS, "alter 2 #", 0, 1023, Due.ARGUMENT);

        s.says("Returns the extra that it had.");
        s.is(KINDS, "alter 1 0", 3);
        s.is(KINDS.then("alter 1 0"), "alter 1 8", 0);
        s.is(KINDS.then("alter 1 8"), "alter 1 8", 8);
        s.is(KINDS, "alter 2 0", 6);
        s.is(KINDS.then("alter 2 1023"), "alter 2 0", 1023);
        s.is(KINDS.then("?alter 2 1024"), "alter 2 0", 6);

        s.says("Throws `IndexOutOfBoundsException` if there is no such object");
        s.refuses("alter 0 0", Due.INDEX);
        s.refuses(KINDS, "alter 3 0", Due.INDEX);
        s.refuses(KINDS, "alter -1 0", Due.INDEX);
        s.refuses(FIFTY, "alter 50 0", Due.INDEX);

        s.says("Throws `IllegalStateException` if it is a grant");
        s.refuses(KINDS, "alter 0 0", Due.STATE);
        s.refuses(KINDS, "alter 0 8", Due.STATE);
        s.refuses(FIFTY, "alter 15 0", Due.STATE);
        s.is(FIFTY, "alter 16 0", 8);

        s.says("Throws `IllegalArgumentException` if extra is out of range");
        s.refuses(KINDS, "alter 1 -1", Due.ARGUMENT);
        s.refuses(KINDS, "alter 1 9", Due.ARGUMENT);
        s.refuses(KINDS, "alter 1 1023", Due.ARGUMENT);
        s.refuses(KINDS, "alter 2 -1", Due.ARGUMENT);
        s.refuses(KINDS, "alter 2 1024", Due.ARGUMENT);
        s.is(KINDS, "alter 2 9", 6);
    }

    private void sign() {
        s.section("Promise 12: sign");
        s.says("Signs an object anew, as it is now, by the key of its issuer now.");
        s.is(KINDS.then("alter 1 8", "roll 0", "sign 1"), "judged 1", Pathwarden.GOOD);
        s.is(KINDS.then("alter 1 8", "roll 0"), "sign 1", Runs.signature(0, 1, 1, 0, 4, 0, 0, 8, 1000));
        s.is(KINDS.then("alter 1 8", "roll 0", "sign 1"), "alter 1 0", 8);
        s.is(KINDS.then("roll 1"), "sign 1", Runs.signature(0, 0, 1, 0, 4, 0, 0, 3, 1000));
        s.is(KINDS.days(1001), "sign 1", Runs.signature(0, 0, 1, 0, 4, 0, 0, 3, 1000));
        s.is(KINDS.days(1001).then("sign 1"), "judged 1", Pathwarden.LATE);
        s.is(KINDS.times(100, "roll 0"), "sign 0", Runs.signature(0, 100, 0, 0, 1, 0, 0, 0, 1000));

        s.says("`object`: its number");
        s.bounds(KINDS, "sign #", 0, 2, Due.INDEX);
        s.bounds(FIFTY, "sign #", 0, 49, Due.INDEX);

        s.says("Returns its signature.");
        s.is(KINDS, "sign 0", Runs.signature(0, 0, 0, 0, 1, 0, 0, 0, 1000));
        s.is(KINDS, "sign 2", Runs.signature(0, 0, 2, 0, 5, 0, 0, 6, 1000));
        s.is(KINDS.then("sign 2"), "sign 2", Runs.signature(0, 0, 2, 0, 5, 0, 0, 6, 1000));
        s.is(NEW.then("vouch 0 0 186 895"), "sign 0", 0);
        s.is(NEW.then("vouch 0 0 90 780"), "sign 0", 65520);

        s.says("Throws `IndexOutOfBoundsException` if there is no such object");
        s.refuses("sign 0", Due.INDEX);
        s.refuses(KINDS.then("roll 0"), "sign 3", Due.INDEX);
        s.refuses(KINDS.then("roll 0"), "sign -1", Due.INDEX);
        s.refuses(FIFTY, "sign 50", Due.INDEX);
    }

    private void objects() {
        s.section("Promise 18: objects");
        s.says("Returns how many objects there are.");
        s.is("objects", 0);
        s.is(NEW.then("grant 0 0 0 0 0"), "objects", 1);
        s.is(KINDS, "objects", 3);
        s.is(NEW.times(49, "vouch 0 0 0 0"), "objects", 49);
        s.is(FIFTY, "objects", 50);
        s.is(FIFTY.then("?grant 0 0 0 0 0", "?origin 0 0 0 0 0 0", "?vouch 0 0 0 0"), "objects", 50);
        s.is(NEW.then("?grant 0 0 256 8 0", "?origin 0 0 0 0 9 0", "?vouch 0 10 0 0"), "objects", 0);
        s.is(KINDS.then("revoke 0", "publish 0 0").days(10000), "objects", 3);
        s.changesNothing(KINDS, "objects");
    }

    private void judged() {
        s.section("Promise 19: judged");
        s.says("Returns how an object is judged.");
        s.is(FIFTY, "judged 0", Pathwarden.OUTSIDE);
        s.is(FIFTY, "judged 15", Pathwarden.OUTSIDE);
        s.is(FIFTY, "judged 16", Pathwarden.GOOD);
        s.is(FIFTY, "judged 49", Pathwarden.GOOD);
        s.is(FIFTY.days(1001), "judged 49", Pathwarden.LATE);
        s.changesNothing(FIFTY, "judged 49", "judged 0");

        s.says("`object`: its number");
        s.bounds(KINDS, "judged #", 0, 2, Due.INDEX);
        s.bounds(FIFTY, "judged #", 0, 49, Due.INDEX);

        s.says("Returns GOOD to OUTSIDE.");
        Run origin = EIGHT.then("origin 0 9 0 0 8 40");
        s.is(origin, "judged 0", 0);
        s.is(origin.days(41), "judged 0", 1);
        s.is(origin.then("revoke 0", "publish 0 0"), "judged 0", 2);
        s.is(origin.days(31), "judged 0", 3);
        s.is(origin.then("roll 0"), "judged 0", 4);
        s.is(EIGHT.then("origin 7 9 0 0 8 40"), "judged 0", 5);

        s.says("Throws `IndexOutOfBoundsException` if there is no such object");
        s.refuses("judged 0", Due.INDEX);
        s.refuses(KINDS, "judged 3", Due.INDEX);
        s.refuses(KINDS, "judged -1", Due.INDEX);
        s.refuses(FIFTY, "judged 50", Due.INDEX);
    }
}
