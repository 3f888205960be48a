/** Promises 24 to 28: path, leak, stopped, allowed, falseAlarms. */
public final class PathsTest {
    private static final Due due = new Due("PathsTest");

    public static void main(String[] args) {
        upwards();
        upwardsBySeveralVouchers();
        downwards();
        downwardsVouchedOnBothSides();
        badVouchersAreSilent();
        askedAgain();
        pathThrows();
        leak();
        stoppedByOrigin();
        stoppedByPath();
        stoppedThrows();
        allowed();
        allowedLengths();
        allowedThrows();
        falseAlarms();
        falseAlarmsFromProviders();
        due.end();
    }

    private static int route(Pathwarden x, int... nets) {
        return RoutesTest.route(x, 0, 0, nets);
    }

    private static void judge(Pathwarden x, String what, int up, int down, int... nets) {
        int route = route(x, nets);
        due.is("24: upwards, " + what, up, () -> x.path(route, true));
        due.is("24: downwards, " + what, down, () -> x.path(route, false));
    }

    private static void upwards() {
        Pathwarden x = new Pathwarden();
        judge(x, "one net", Pathwarden.VALID, Pathwarden.VALID, 4);
        judge(x, "two silent nets", Pathwarden.NOT_FOUND, Pathwarden.VALID, 4, 5);
        judge(x, "round", Pathwarden.INVALID, Pathwarden.INVALID, 4, 5, 4);
        x.vouch(0, 1, 4 + 8, 100);
        x.vouch(0, 2, 8, 100);
        judge(x, "all vouch", Pathwarden.VALID, Pathwarden.VALID, 1, 2, 3);
        judge(x, "one vouches", Pathwarden.VALID, Pathwarden.VALID, 1, 3);
        judge(x, "one vouches, one is silent", Pathwarden.NOT_FOUND, Pathwarden.VALID, 1, 3, 5);
        judge(x, "one denies", Pathwarden.INVALID, Pathwarden.VALID, 1, 5);
        judge(x, "one denies, one is silent", Pathwarden.INVALID, Pathwarden.NOT_FOUND, 5, 6, 1, 7);
        judge(x, "one vouches, one denies", Pathwarden.INVALID, Pathwarden.VALID, 1, 2, 5);
    }

    private static void upwardsBySeveralVouchers() {
        Pathwarden x = new Pathwarden();
        x.vouch(0, 1, 4, 100);
        x.vouch(0, 1, 8, 100);
        judge(x, "by the first", Pathwarden.VALID, Pathwarden.VALID, 1, 2);
        judge(x, "by the second", Pathwarden.VALID, Pathwarden.VALID, 1, 3);
        judge(x, "by none", Pathwarden.INVALID, Pathwarden.VALID, 1, 4);
        x.vouch(0, 9, 1, 100);
        judge(x, "net 9 for net 0", Pathwarden.VALID, Pathwarden.VALID, 9, 0);
        judge(x, "net 0 is silent", Pathwarden.NOT_FOUND, Pathwarden.VALID, 0, 9);
    }

    private static void downwards() {
        Pathwarden x = new Pathwarden();
        x.vouch(0, 1, 0, 100);
        x.vouch(0, 2, 0, 100);
        x.vouch(0, 3, 0, 100);
        judge(x, "two that deny", Pathwarden.INVALID, Pathwarden.VALID, 1, 2);
        judge(x, "three that deny", Pathwarden.INVALID, Pathwarden.INVALID, 1, 2, 3);
        judge(x, "the first goes on", Pathwarden.INVALID, Pathwarden.NOT_FOUND, 4, 2, 3);
        judge(x, "the last goes back", Pathwarden.INVALID, Pathwarden.NOT_FOUND, 1, 2, 4);
        judge(x, "two in the middle that deny both sides", Pathwarden.INVALID, Pathwarden.NOT_FOUND, 4, 1, 2, 5);
        judge(x, "three in the middle", Pathwarden.INVALID, Pathwarden.INVALID, 4, 1, 2, 3, 5);
        judge(x, "all silent", Pathwarden.NOT_FOUND, Pathwarden.NOT_FOUND, 4, 5, 6, 7, 8, 9);
    }

    private static void downwardsVouchedOnBothSides() {
        Pathwarden x = new Pathwarden();
        x.vouch(0, 1, 1 << 2, 100);
        x.vouch(0, 4, 1 << 3, 100);
        judge(x, "up, along and down", Pathwarden.INVALID, Pathwarden.NOT_FOUND, 4, 1, 2, 3, 5);
        judge(x, "vouched up and down", Pathwarden.NOT_FOUND, Pathwarden.VALID, 1, 2, 3, 4);
        judge(x, "vouched up to one alone", Pathwarden.NOT_FOUND, Pathwarden.VALID, 1, 2, 3);
        judge(x, "vouched back to one alone", Pathwarden.NOT_FOUND, Pathwarden.VALID, 2, 3, 4);
        judge(x, "one net too many", Pathwarden.NOT_FOUND, Pathwarden.NOT_FOUND, 1, 2, 0, 3, 4);
        x.vouch(0, 3, 1 << 2, 100);
        judge(x, "it counts twice", Pathwarden.INVALID, Pathwarden.VALID, 1, 2, 3, 4);
    }

    private static void badVouchersAreSilent() {
        Pathwarden x = new Pathwarden();
        x.holder(0);
        int bad = x.vouch(1, 1, 4, 100);
        int route = route(x, 1, 2);
        due.is("24: a voucher that is outside", Pathwarden.NOT_FOUND, () -> x.path(route, true));
        x.grant(0, 1, 0, 8, 100);
        x.belong(1, 1);
        due.is("24: it is good", Pathwarden.VALID, () -> x.path(route, true));
        x.alter(bad, 0);
        due.is("24: altered", Pathwarden.NOT_FOUND, () -> x.path(route, true));
        x.sign(bad);
        due.is("24: altered and signed", Pathwarden.INVALID, () -> x.path(route, true));
        x.revoke(bad);
        x.publish(1, 100);
        due.is("24: revoked", Pathwarden.NOT_FOUND, () -> x.path(route, true));
    }

    private static void askedAgain() {
        Pathwarden x = new Pathwarden();
        int zero = x.vouch(0, 0, 0, 100);
        int nine = x.vouch(0, 9, 0, 100);
        int up = route(x, 0, 1);
        int back = route(x, 9, 1);
        due.is("24: 0 denies", Pathwarden.INVALID, () -> x.path(up, true));
        due.is("24: 9 denies", Pathwarden.INVALID, () -> x.path(back, true));
        x.alter(zero, 2);
        x.alter(nine, 2);
        due.is("24: 0 is silent now", Pathwarden.NOT_FOUND, () -> x.path(up, true));
        due.is("24: 9 is silent now", Pathwarden.NOT_FOUND, () -> x.path(back, true));
        x.sign(zero);
        x.sign(nine);
        due.is("24: 0 vouches now", Pathwarden.VALID, () -> x.path(up, true));
        x.alter(zero, 4);
        x.alter(nine, 4);
        x.sign(zero);
        x.sign(nine);
        due.is("24: 0 denies again", Pathwarden.INVALID, () -> x.path(up, true));
        due.is("24: 9 denies again", Pathwarden.INVALID, () -> x.path(back, true));
    }

    private static void pathThrows() {
        Pathwarden x = new Pathwarden();
        route(x, 1, 2);
        due.fails("24: no route 1", Due.INDEX, () -> x.path(1, true));
        due.fails("24: no route -1", Due.INDEX, () -> x.path(-1, false));
        due.fails("25: no route 1", Due.INDEX, () -> x.leak(1));
        due.fails("25: no route -1", Due.INDEX, () -> x.leak(-1));
    }

    private static void leaks(Pathwarden x, String what, int want, int... nets) {
        int route = route(x, nets);
        due.is("25: " + what, want, () -> x.leak(route));
    }

    private static void leak() {
        Pathwarden x = new Pathwarden();
        x.tie(1, 2, Pathwarden.CUSTOMER);
        x.tie(3, 2, Pathwarden.PROVIDER);
        x.tie(4, 3, Pathwarden.PEER);
        x.tie(4, 2, Pathwarden.PEER);
        x.tie(1, 5, Pathwarden.CUSTOMER);
        leaks(x, "one net", Pathwarden.NONE, 2);
        leaks(x, "two nets", Pathwarden.NONE, 3, 2);
        leaks(x, "from a customer to a provider", Pathwarden.NONE, 1, 2, 3);
        leaks(x, "from a provider to a customer", Pathwarden.NONE, 3, 2, 1);
        leaks(x, "from a customer to a peer", Pathwarden.NONE, 1, 2, 4);
        leaks(x, "from a peer to a customer", Pathwarden.NONE, 4, 2, 1);
        leaks(x, "from a provider to a peer", 2, 3, 2, 4);
        leaks(x, "from a peer to a provider", 2, 4, 2, 3);
        leaks(x, "from a provider to a provider", 1, 2, 1, 5);
        leaks(x, "from a peer to a peer", 4, 3, 4, 2);
        leaks(x, "no tie to the one ahead", Pathwarden.NONE, 9, 2, 3);
        leaks(x, "no tie to the one behind", Pathwarden.NONE, 3, 2, 9);
        leaks(x, "back to the provider that it came from", 1, 2, 1, 2);
        leaks(x, "back to the customer that it came from", Pathwarden.NONE, 1, 2, 1);
        x.tie(0, 2, Pathwarden.PROVIDER);
        leaks(x, "nothing stands behind the last net", Pathwarden.NONE, 3, 2);
        leaks(x, "nor behind the last of six", Pathwarden.NONE, 9, 9, 9, 9, 3, 2);
        leaks(x, "of six nets", Pathwarden.NONE, 9, 8, 9, 8, 3, 2);
        leaks(x, "the first of two", 4, 3, 4, 2, 3);
        leaks(x, "the second place", 2, 9, 4, 2, 3);
        leaks(x, "the last place", 4, 9, 0, 1, 2, 4, 3);
    }

    private static void stops(Pathwarden x, String what, int want, int filters, int route) {
        due.is("26: " + what, want, () -> x.stopped(route, filters));
    }

    private static void stoppedByOrigin() {
        Pathwarden x = new Pathwarden();
        x.origin(0, 0, 128, 1, 2, 100);
        int right = RoutesTest.route(x, 192, 2, 0, 1, 2, 3);
        int tooLong = RoutesTest.route(x, 192, 3, 0, 1, 2, 3);
        int wrong = RoutesTest.route(x, 128, 1, 4, 1, 2, 3);
        int alone = RoutesTest.route(x, 128, 1, 4);
        stops(x, "a valid origin", Pathwarden.NONE, 1023, right);
        stops(x, "a block that is too long", 1, 1023, tooLong);
        stops(x, "a wrong origin", 1, 1023, wrong);
        stops(x, "the first with a filter", 2, 8 + 4, wrong);
        stops(x, "the last one alone", 3, 8, wrong);
        stops(x, "no filters on the path", Pathwarden.NONE, 1023 - 14, wrong);
        stops(x, "no filters", Pathwarden.NONE, 0, wrong);
        stops(x, "the origin itself does not count", Pathwarden.NONE, 1023, alone);
        int back = RoutesTest.route(x, 128, 1, 4, 1, 4);
        stops(x, "the origin again, behind itself", 4, 16, back);
        int unknown = RoutesTest.route(x, 0, 1, 4, 1, 2);
        stops(x, "an origin that is not found", Pathwarden.NONE, 1023, unknown);
    }

    private static void stoppedByPath() {
        Pathwarden x = new Pathwarden();
        x.vouch(0, 1, 4, 100);
        int route = route(x, 1, 5, 3, 6);
        stops(x, "5 does not judge the step to itself", 3, 1023, route);
        stops(x, "5 alone", Pathwarden.NONE, 32, route);
        x.tie(5, 3, Pathwarden.PROVIDER);
        stops(x, "downwards at 3, upwards at 6", 6, 1023, route);
        x.tie(3, 6, Pathwarden.PROVIDER);
        stops(x, "downwards at both", Pathwarden.NONE, 1023, route);
        x.tie(3, 6, Pathwarden.CUSTOMER);
        stops(x, "from a customer upwards", 6, 1023, route);
        x.tie(3, 6, Pathwarden.PEER);
        stops(x, "from a peer upwards", 6, 1023, route);
        x.tie(3, 6, Pathwarden.PROVIDER);
        x.vouch(0, 5, 0, 100);
        x.vouch(0, 3, 0, 100);
        stops(x, "1 5 3 is invalid downwards", 6, 1023, route);
        int round = route(x, 7, 8, 7, 9, 6);
        stops(x, "what comes to 7 does not run round yet", 9, 1023, round);
        stops(x, "round, further on", 6, 64, round);
        x.tie(7, 9, Pathwarden.PROVIDER);
        stops(x, "round, downwards", 9, 1023, round);
    }

    private static void stoppedThrows() {
        Pathwarden x = new Pathwarden();
        route(x, 1, 2);
        due.fails("26: no route 1, ahead of the filters", Due.INDEX, () -> x.stopped(1, 1024));
        due.fails("26: no route -1", Due.INDEX, () -> x.stopped(-1, 0));
        due.fails("26: filters 1024", Due.ARGUMENT, () -> x.stopped(0, 1024));
        due.fails("26: filters -1", Due.ARGUMENT, () -> x.stopped(0, -1));
    }

    private static void ways(Pathwarden x, String what, int want, int from, int to) {
        due.is("27: " + what, want, () -> x.allowed(from, to));
    }

    private static void allowed() {
        Pathwarden x = new Pathwarden();
        ways(x, "no tie", 0, 1, 2);
        x.tie(1, 2, Pathwarden.CUSTOMER);
        ways(x, "a tie", 1, 1, 2);
        ways(x, "the other way round", 1, 2, 1);
        ways(x, "to itself", 0, 1, 1);
        x.tie(3, 2, Pathwarden.CUSTOMER);
        ways(x, "up and down", 1, 1, 3);
        x.tie(4, 1, Pathwarden.PROVIDER);
        ways(x, "down and up is not allowed", 0, 4, 2);
        x.tie(4, 2, Pathwarden.PEER);
        ways(x, "two ways: along, and none down and up", 1, 4, 2);
        ways(x, "over the provider, and over its peer", 2, 1, 4);
        ways(x, "down from the peer, and over none", 1, 4, 3);
        x.tie(4, 5, Pathwarden.PEER);
        ways(x, "not over the provider and back", 1, 3, 2);
        x.tie(6, 1, Pathwarden.CUSTOMER);
        ways(x, "not over 2 or 4 and back to 1", 1, 1, 6);
        ways(x, "two peers in turn are not allowed", 0, 2, 5);
        x.tie(4, 2, Pathwarden.NOTHING);
        ways(x, "the tie is gone", 0, 4, 3);
    }

    private static void allowedLengths() {
        Pathwarden x = new Pathwarden();
        for (int net = 0; net < 9; net++) {
            x.tie(net, net + 1, Pathwarden.CUSTOMER);
        }
        ways(x, "two nets", 1, 0, 1);
        ways(x, "five nets", 1, 0, 4);
        ways(x, "six nets are too many", 0, 0, 5);
        ways(x, "five nets down", 1, 9, 5);
        for (int one = 0; one < 10; one++) {
            for (int other = one + 1; other < 10; other++) {
                x.tie(one, other, Pathwarden.CUSTOMER);
            }
        }
        // One net up, then n nets between, in rising order: the ways that go up from 0 to 9.
        ways(x, "all ways up", 1 + 8 + 28 + 56, 0, 9);
        for (int one = 0; one < 10; one++) {
            for (int other = one + 1; other < 10; other++) {
                x.tie(one, other, Pathwarden.PEER);
            }
        }
        ways(x, "peers alone", 1, 0, 9);
    }

    private static void allowedThrows() {
        Pathwarden x = new Pathwarden();
        due.fails("27: from 10", Due.INDEX, () -> x.allowed(10, 0));
        due.fails("27: from -1", Due.INDEX, () -> x.allowed(-1, 0));
        due.fails("27: to 10", Due.INDEX, () -> x.allowed(0, 10));
        due.fails("27: to -1", Due.INDEX, () -> x.allowed(0, -1));
        due.fails("27: both 10", Due.INDEX, () -> x.allowed(10, 10));
        ways(x, "9 to 9", 0, 9, 9);
    }

    private static void falseAlarms() {
        Pathwarden x = new Pathwarden();
        x.tie(1, 2, Pathwarden.CUSTOMER);
        x.tie(2, 3, Pathwarden.CUSTOMER);
        x.tie(3, 4, Pathwarden.CUSTOMER);
        due.is("28: all silent", 0, x::falseAlarms);
        x.vouch(0, 1, 0, 100);
        // 1 2 3 and 1 2 3 4 are refused by their last nets; 1 2 is not.
        due.is("28: a voucher that is wrong", 2, x::falseAlarms);
        x.origin(0, 9, 0, 0, 0, 100);
        due.is("28: blocks are left aside", 2, x::falseAlarms);
        x.vouch(0, 1, 4, 100);
        due.is("28: set right", 0, x::falseAlarms);
        x.vouch(0, 2, 0, 100);
        // 1 2 3 4 and 2 3 4.
        due.is("28: another one that is wrong", 2, x::falseAlarms);
        x.pass(31);
        due.is("28: all stale", 0, x::falseAlarms);
    }

    private static void falseAlarmsFromProviders() {
        Pathwarden x = new Pathwarden();
        x.tie(1, 0, Pathwarden.CUSTOMER);
        x.tie(2, 1, Pathwarden.CUSTOMER);
        x.tie(3, 2, Pathwarden.CUSTOMER);
        x.vouch(0, 0, 0, 100);
        x.vouch(0, 1, 0, 100);
        x.vouch(0, 2, 0, 100);
        // Down: 0 1 2 3 comes to 3 from its provider; in 0 1 2 none goes on, one side up, one back, 2 of 3.
        // Up: 2 1 0, 3 2 1 0: 2 denies 1; 3 is silent; upwards both are refused. 3 2 1 is not.
        due.is("28: downwards too", 3, x::falseAlarms);
        x.tie(3, 2, Pathwarden.PEER);
        // 3 2 1 and 3 2 1 0 and 0 1 2 3 are not allowed any more; 2 1 0 is.
        due.is("28: with a peer at the end", 1, x::falseAlarms);
    }
}
