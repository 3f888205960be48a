/** An object that holds all that it may hold: 8 holders, 50 objects, 24 routes of 6 nets, all ties. */
public final class FullTest {
    private static final Due due = new Due("FullTest");

    public static void main(String[] args) {
        Pathwarden signed = filled();
        holders(signed);
        objects(signed);
        Pathwarden heard = filled();
        routes(heard);
        relations(heard);
        due.end();
    }

    /** 280 calls; behind the 512th one of an object nothing is promised, so each half has one of its own. */
    private static Pathwarden filled() {
        Pathwarden x = new Pathwarden();
        for (int h = 1; h < 8; h++) {
            x.holder(h - 1);
            x.grant(h - 1, h, 0, 0, 1000);
        }
        for (int net = 0; net < 10; net++) {
            x.belong(net, 7);
            x.vouch(7, net, 1023, 1000);
        }
        for (int n = 0; n < 33; n++) {
            x.origin(7, 9, 0, 0, 0, 1000);
        }
        for (int one = 0; one < 10; one++) {
            for (int other = one + 1; other < 10; other++) {
                x.tie(one, other, Pathwarden.PEER);
            }
        }
        for (int n = 0; n < 24; n++) {
            RoutesTest.route(x, 255, 8, 0, 1, 2, 3, 4, 5);
        }
        return x;
    }

    private static void holders(Pathwarden x) {
        due.fails("no ninth holder", Due.STATE, () -> x.holder(7));
        for (int h = 0; h < 8; h++) {
            int holder = h;
            due.is("has", 1, () -> Due.bit(x.has(holder, 0, 0)));
            due.is("hasByChains", 1, () -> Due.bit(x.hasByChains(holder, 0, 0)));
        }
        due.is("revoked", 1, () -> Due.bit(x.revoke(49)));
        due.is("publish", 1, () -> x.publish(7, 30));
        due.is("publish", 0, () -> x.publish(6, 30));
        x.roll(0);
        due.is("has", 0, () -> Due.bit(x.has(7, 0, 0)));
        due.is("hasByChains", 0, () -> Due.bit(x.hasByChains(7, 0, 0)));
        due.is("a voucher of somebody without a block", Pathwarden.OUTSIDE, () -> x.judged(7));
        x.sign(0);
    }

    private static void objects(Pathwarden x) {
        due.is("objects", 50, x::objects);
        due.is("the last one", Pathwarden.REVOKED, () -> x.judged(49));
        for (int n = 0; n < 49; n++) {
            int object = n;
            due.is("judged", Pathwarden.GOOD, () -> x.judged(object));
        }
        due.is("state", Pathwarden.INVALID, () -> x.state(9, 255, 8));
        due.is("state", Pathwarden.VALID, () -> x.state(9, 0, 0));
        due.fails("no more objects", Due.STATE, () -> x.vouch(0, 0, 0, 0));
    }

    private static void routes(Pathwarden x) {
        due.is("routes", 24, x::routes);
        for (int n = 0; n < 24; n++) {
            int route = n;
            due.is("upwards", Pathwarden.VALID, () -> x.path(route, true));
            due.is("downwards", Pathwarden.VALID, () -> x.path(route, false));
            due.is("leak", 1, () -> x.leak(route));
            due.is("stopped by its origin", 5, () -> x.stopped(route, 1 << 5));
            due.is("nobody stops it", Pathwarden.NONE, () -> x.stopped(route, 1023 - 62));
        }
        due.is("allowed", 1, () -> x.allowed(0, 9));
        due.is("falseAlarms", 0, x::falseAlarms);
        due.is("hop", 6, () -> {
            for (int n = 0; n < 5; n++) {
                x.hop(n);
            }
            return x.hop(5);
        });
        due.fails("no more hops", Due.STATE, () -> x.hop(6));
        due.fails("no more routes", Due.STATE, () -> x.hear(0, 0));
    }

    private static void relations(Pathwarden x) {
        due.is("clique: 1, then 2", 2 + 4, x::clique);
        for (int round = 0; round < 3; round++) {
            int r = round;
            due.is("ahead of the clique", Pathwarden.CUSTOMER, () -> x.inferred(0, 1, r));
            due.is("behind it", Pathwarden.CUSTOMER, () -> x.inferred(5, 4, r));
        }
        due.is("cone", 2 + 1, () -> x.cone(1));
        due.is("cone", 4 + 8 + 16 + 32, () -> x.cone(2));
        due.is("coneByPaths", 2 + 1, () -> x.coneByPaths(1));
        due.is("coneByPaths of a net on no path", 512, () -> x.coneByPaths(9));
        due.is("addresses", 1, () -> x.addresses(1));
        due.is("addresses of a net without routes", 0, () -> x.addresses(2));
        for (int n = 0; n < 24; n++) {
            int route = n;
            due.is("withdraw", 23 - n, () -> x.withdraw(route));
        }
        due.is("clique without routes", 0, x::clique);
        due.is("addresses without routes", 0, () -> x.addresses(1));
    }
}
