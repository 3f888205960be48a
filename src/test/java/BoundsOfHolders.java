/** The sentences of promises 1 to 6 and 17, which tell of holders and days. */
final class BoundsOfHolders {
    private static final Run NEW = Run.NEW;
    private static final Run EIGHT = Runs.EIGHT;

    private final Sentences s;

    private BoundsOfHolders(Sentences s) {
        this.s = s;
    }

    static void tell(Sentences s) {
        BoundsOfHolders all = new BoundsOfHolders(s);
        all.newObject();
        all.holder();
        all.belong();
        all.roll();
        all.publish();
        all.pass();
        all.today();
    }

    private void newObject() {
        s.section("Promise 1: A new object");
        s.says("The holder 0, ten nets; no objects, routes, ties.");
        s.is("today", 0);
        s.is("objects", 0);
        s.is("routes", 0);
        s.is("clique", 0);
        s.is("falseAlarms", 0);
        s.is("hop 0", 1);
        s.refuses("hear 0 0", Due.STATE);
        s.refuses("roll 1", Due.INDEX);
        s.refuses("judged 0", Due.INDEX);
        s.refuses("revoke 0", Due.INDEX);
        s.refuses("path 0 1", Due.INDEX);
        s.refuses("withdraw 0", Due.INDEX);
        s.refuses("belong 10 0", Due.INDEX);
        for (int one = 0; one < 10; one++) {
            s.is("belong " + one + " 0", 0);
            s.is("addresses " + one, 0);
            for (int other = 0; other < 10; other++) {
                s.is("allowed " + one + " " + other, 0);
                if (one != other) {
                    s.is("tie " + one + " " + other + " 3", Pathwarden.NOTHING);
                }
            }
        }
    }

    private void holder() {
        s.section("Promise 2: holder");
        s.says("Adds a holder.");
        s.refuses("roll 1", Due.INDEX);
        s.is(NEW.then("holder 0"), "roll 1", 1);
        s.refuses(NEW.then("holder 0"), "roll 2", Due.INDEX);
        s.is(EIGHT, "roll 7", 1);

        s.says("`parent`: a holder");
        s.bounds(NEW, "holder #", 0, 0, Due.INDEX);
        s.bounds(NEW.then("holder 0", "holder 1"), "holder #", 0, 2, Due.INDEX);
        s.bounds(NEW.times(6, "holder 0"), "holder #", 0, 6, Due.INDEX);

        s.says("Returns its number.");
        for (int n = 1; n < 8; n++) {
            s.is(NEW.times(n - 1, "holder 0"), "holder " + (n - 1), n);
        }
        s.is(NEW.then("?holder 1", "?holder -1"), "holder 0", 1);

        s.says("Throws `IndexOutOfBoundsException` if there is no such holder");
        s.refuses("holder -1", Due.INDEX);
        s.refuses("holder 1", Due.INDEX);
        s.refuses("holder 8", Due.INDEX);

        s.says("Throws `IllegalStateException` if there are 8");
        s.is(NEW.times(6, "holder 0"), "holder 0", 7);
        s.refuses(EIGHT, "holder 0", Due.STATE);
        s.refuses(EIGHT, "holder 7", Due.STATE);
    }

    private void belong() {
        s.section("Promise 3: belong");
        s.says("Lets a net belong to a holder.");
        Run net9 = EIGHT.then("grant 0 7 0 8 9", "vouch 7 9 0 9");
        s.is(net9, "judged 1", Pathwarden.OUTSIDE);
        s.is(net9.then("belong 8 7"), "judged 1", Pathwarden.OUTSIDE);
        s.is(net9.then("belong 9 6"), "judged 1", Pathwarden.OUTSIDE);
        s.is(net9.then("belong 9 7"), "judged 1", Pathwarden.GOOD);

        s.says("`net`: 0 to 9");
        s.bounds(EIGHT, "belong # 7", 0, 9, Due.INDEX);

        s.says("`holder`: a holder");
        s.bounds(EIGHT, "belong 9 #", 0, 7, Due.INDEX);
        s.bounds(NEW, "belong 9 #", 0, 0, Due.INDEX);

        s.says("Returns the holder to whom it belonged.");
        s.is(EIGHT, "belong 0 7", 0);
        s.is(EIGHT.then("belong 0 7"), "belong 0 7", 7);
        s.is(EIGHT.then("belong 0 7", "belong 0 7"), "belong 0 0", 7);
        s.is(EIGHT.then("belong 0 7", "belong 0 0"), "belong 0 7", 0);
        s.is(EIGHT.then("belong 0 7"), "belong 1 7", 0);
        s.is(EIGHT.then("belong 9 7", "?belong 9 8"), "belong 9 0", 7);

        s.says("Throws `IndexOutOfBoundsException` if there is no such net or holder");
        s.refuses("belong -1 0", Due.INDEX);
        s.refuses("belong 10 0", Due.INDEX);
        s.refuses("belong 0 -1", Due.INDEX);
        s.refuses("belong 0 1", Due.INDEX);
        s.refuses(EIGHT, "belong 0 8", Due.INDEX);
        s.refuses(EIGHT, "belong 10 8", Due.INDEX);
    }

    private void roll() {
        s.section("Promise 4: roll");
        s.says("Rolls the key of a holder: it is 1 more.");
        s.is("roll 0", 1);
        s.is(NEW.then("roll 0"), "roll 0", 2);
        s.is(NEW.then("holder 0", "roll 0"), "roll 1", 1);
        s.is(NEW.then("origin 0 0 0 0 0 0", "roll 0"), "judged 0", Pathwarden.FORGED);

        s.says("`holder`: a holder");
        s.bounds(EIGHT, "roll #", 0, 7, Due.INDEX);
        s.bounds(NEW, "roll #", 0, 0, Due.INDEX);

        s.says("Returns the key then.");
        s.is(NEW.times(98, "roll 0"), "roll 0", 99);
        s.is(NEW.times(99, "roll 0"), "roll 0", 100);

        s.says("Throws `IndexOutOfBoundsException` if there is no such holder");
        s.refuses("roll -1", Due.INDEX);
        s.refuses("roll 1", Due.INDEX);
        s.refuses(EIGHT, "roll 8", Due.INDEX);

        s.says("Throws `IllegalStateException` if it is 100");
        s.refuses(NEW.times(100, "roll 0"), "roll 0", Due.STATE);
        s.refuses(EIGHT.times(100, "roll 7"), "roll 7", Due.STATE);
        s.is(EIGHT.times(100, "roll 7"), "roll 6", 1);
        s.is(NEW.times(100, "roll 0").then("origin 0 0 0 0 0 0", "?roll 0"), "judged 0", Pathwarden.GOOD);
    }

    private void publish() {
        s.section("Promise 5: publish");
        s.says("Publishes the list of a holder.");
        Run origin = NEW.then("origin 0 0 0 0 0 1000", "revoke 0");
        s.is(origin, "judged 0", Pathwarden.GOOD);
        s.is(origin.then("publish 0 0"), "judged 0", Pathwarden.REVOKED);
        s.is(origin.then("holder 0", "publish 1 0"), "judged 0", Pathwarden.GOOD);

        s.says("`holder`: a holder");
        s.bounds(EIGHT, "publish # 0", 0, 7, Due.INDEX);
        s.bounds(NEW, "publish # 0", 0, 0, Due.INDEX);

        s.says("`days`: 0 to 100: it is fresh up to today and so many days");
        s.bounds(NEW.then("origin 0 0 0 0 0 1000"), "publish 0 #", 0, 100, Due.ARGUMENT);
        for (int days : new int[] {0, 1, 100}) {
            for (int today : new int[] {0, 7, 30, 31}) {
                Run run = NEW.then("origin 0 0 0 0 0 1000").days(today).then("publish 0 " + days);
                s.is(run.days(days), "judged 0", Pathwarden.GOOD);
                s.is(run.days(days + 1), "judged 0", Pathwarden.STALE);
            }
        }
        s.is(NEW.then("origin 0 0 0 0 0 1000", "publish 0 100", "publish 0 0").days(1), "judged 0", Pathwarden.STALE);
        s.is(NEW.then("holder 0", "origin 0 0 0 0 0 1000", "publish 1 100").days(31), "judged 0", Pathwarden.STALE);
        s.is(NEW.days(9900).then("publish 0 100", "origin 0 0 0 0 0 1000").days(100), "judged 0", Pathwarden.GOOD);
        s.is(NEW.days(9900).then("publish 0 99", "origin 0 0 0 0 0 1000").days(100), "judged 0", Pathwarden.STALE);
        s.is(NEW.days(10000).then("publish 0 100", "origin 0 0 0 0 0 1000"), "judged 0", Pathwarden.GOOD);

        s.says("Returns how many objects are on the list then.");
        s.is("publish 0 0", 0);
        s.is(NEW.then("origin 0 0 0 0 0 0"), "publish 0 0", 0);
        s.is(origin, "publish 0 0", 1);
        s.is(origin.then("revoke 0"), "publish 0 0", 1);
        s.is(origin.then("publish 0 0"), "publish 0 0", 1);
        s.is(origin.days(10000), "publish 0 0", 1);
        Run kinds = Runs.KINDS.then("revoke 0", "revoke 1", "revoke 2");
        s.is(kinds, "publish 0 0", 3);
        s.is(kinds, "publish 1 0", 0);
        s.is(kinds.then("?publish 0 101"), "publish 0 0", 3);
        Run all = NEW.times(50, "vouch 0 0 0 0");
        for (int object = 0; object < 49; object++) {
            all = all.then("revoke " + object);
        }
        s.is(all, "publish 0 100", 49);
        s.is(all.then("publish 0 100", "revoke 49"), "publish 0 100", 50);

        s.says("Throws `IndexOutOfBoundsException` if there is no such holder");
        s.refuses(origin, "publish -1 0", Due.INDEX);
        s.refuses(origin, "publish 1 0", Due.INDEX);
        s.refuses(EIGHT, "publish 8 0", Due.INDEX);

        s.says("Throws `IllegalArgumentException` if days is out of range");
        s.refuses(origin, "publish 0 -1", Due.ARGUMENT);
        s.refuses(origin, "publish 0 101", Due.ARGUMENT);
        s.refuses(origin.days(40), "publish 0 101", Due.ARGUMENT);
    }

    private void pass() {
        s.section("Promise 6: pass");
        s.says("Lets days pass.");
        s.is(NEW.then("origin 0 0 0 0 0 0", "pass 1"), "judged 0", Pathwarden.LATE);
        s.is(NEW.then("pass 1"), "today", 1);

        s.says("`days`: 1 to 100");
        s.bounds(NEW, "pass #", 1, 100, Due.ARGUMENT);
        s.bounds(NEW.days(9000), "pass #", 1, 100, Due.ARGUMENT);

        s.says("Returns today then.");
        s.is("pass 1", 1);
        s.is("pass 100", 100);
        s.is(NEW.then("pass 99", "pass 100"), "pass 2", 201);
        s.is(NEW.then("?pass 0", "?pass 101"), "pass 3", 3);

        s.says("Throws `IllegalArgumentException` if days is out of range");
        s.refuses("pass 0", Due.ARGUMENT);
        s.refuses("pass -1", Due.ARGUMENT);
        s.refuses("pass 101", Due.ARGUMENT);
        s.refuses(NEW.days(10000), "pass 2147483647", Due.ARGUMENT);
        s.refuses(NEW.days(10000), "pass -2147483648", Due.ARGUMENT);

        s.says("Throws `IllegalStateException` if today would be above 10000");
        s.is(NEW.days(9900), "pass 100", 10000);
        s.refuses(NEW.days(9901), "pass 100", Due.STATE);
        s.is(NEW.days(9901), "pass 99", 10000);
        s.is(NEW.days(9999), "pass 1", 10000);
        s.refuses(NEW.days(9999), "pass 2", Due.STATE);
        s.refuses(NEW.days(10000), "pass 1", Due.STATE);
        s.refuses(NEW.days(10000), "pass 100", Due.STATE);
    }

    private void today() {
        s.section("Promise 17: today");
        s.says("Returns today.");
        s.is("today", 0);
        s.is(NEW.days(1), "today", 1);
        s.is(NEW.days(10000), "today", 10000);
        s.is(NEW.days(9999).then("?pass 2"), "today", 9999);
        s.is(NEW.days(10000).then("?pass 1"), "today", 10000);
        s.is(NEW.then("?pass 0", "?pass -1", "?pass 101"), "today", 0);
        s.changesNothing(NEW.days(7), "today");
    }
}
