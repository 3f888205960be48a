/** Promises 29 to 33: clique, inferred, cone, coneByPaths, addresses. */
public final class ConesTest {
    private static final Due due = new Due("ConesTest");

    public static void main(String[] args) {
        clique();
        cliqueAmongEqualNets();
        inferred();
        votes();
        ranksChangeInRounds();
        nineNeighbours();
        askedAgain();
        betweenTwoOfTheClique();
        noNeighbours();
        routesThatDoNotTell();
        cones();
        addresses();
        wrongNumbers();
        due.end();
    }

    private static int route(Pathwarden x, int... nets) {
        return RoutesTest.route(x, 0, 0, nets);
    }

    private static void relation(Pathwarden x, String what, int one, int other, int... rounds) {
        for (int r = 0; r < 3; r++) {
            int round = r;
            int want = rounds[r];
            int back = want == Pathwarden.CUSTOMER ? Pathwarden.PROVIDER
                    : want == Pathwarden.PROVIDER ? Pathwarden.CUSTOMER : want;
            due.is("30: " + what + ", round " + r, want, () -> x.inferred(one, other, round));
            due.is("30: " + what + ", back, round " + r, back, () -> x.inferred(other, one, round));
        }
    }

    private static void always(Pathwarden x, String what, int want, int one, int other) {
        relation(x, what, one, other, want, want, want);
    }

    private static void clique() {
        Pathwarden x = new Pathwarden();
        due.is("29: no routes", 0, x::clique);
        route(x, 7);
        due.is("29: a net without neighbours", 0, x::clique);
        route(x, 8, 9);
        due.is("29: two nets", 256 + 512, x::clique);
        route(x, 8, 7, 9);
        due.is("29: three nets", 128 + 256 + 512, x::clique);
        route(x, 7, 1);
        due.is("29: one is no neighbour of all", 128 + 256 + 512, x::clique);
        route(x, 1, 0);
        route(x, 1, 2);
        route(x, 1, 3);
        // 1 has 4 neighbours, 7 has 3, and 8 and 9, which have 2, are none of 1.
        due.is("29: the one with the most comes first", 2 + 128, x::clique);
    }

    private static void cliqueAmongEqualNets() {
        Pathwarden x = new Pathwarden();
        route(x, 0, 1, 2);
        due.is("29: 1, then 0, and 2 is no neighbour of 0", 3, x::clique);
        Pathwarden y = new Pathwarden();
        route(y, 9, 8);
        route(y, 3, 2);
        due.is("29: the lesser number first", 4 + 8, y::clique);
        Pathwarden z = new Pathwarden();
        for (int one = 0; one < 6; one++) {
            for (int other = one + 1; other < 6; other++) {
                if (z.routes() < 24) {
                    route(z, one, other);
                }
            }
        }
        due.is("29: all of six", 63, z::clique);
    }

    private static void inferred() {
        Pathwarden x = new Pathwarden();
        route(x, 0, 1);
        route(x, 1, 2);
        route(x, 3, 4, 5);
        due.is("29: 1 and 0", 3, x::clique);
        always(x, "both of the clique", Pathwarden.PEER, 0, 1);
        always(x, "behind the clique", Pathwarden.CUSTOMER, 2, 1);
        always(x, "ahead of the greatest rank", Pathwarden.CUSTOMER, 3, 4);
        always(x, "behind the greatest rank", Pathwarden.PROVIDER, 4, 5);
        always(x, "no neighbours", Pathwarden.NOTHING, 3, 5);
        always(x, "on no path", Pathwarden.NOTHING, 8, 9);
        always(x, "the same", Pathwarden.NOTHING, 4, 4);
    }

    /** 9, 1 and 2 are the clique, so that 5 and 6 come to 9 each by the other one. */
    private static void votes() {
        Pathwarden x = new Pathwarden();
        route(x, 2, 1, 9);
        route(x, 2, 9);
        route(x, 5, 6, 9);
        due.is("29: 9, 1 and 2", 512 + 2 + 4, x::clique);
        always(x, "1 to 0", Pathwarden.CUSTOMER, 5, 6);
        route(x, 6, 5, 9);
        due.is("29: still 9, 1 and 2", 512 + 2 + 4, x::clique);
        always(x, "1 to 1", Pathwarden.PEER, 5, 6);
        route(x, 5, 6, 9);
        always(x, "2 to 1 is not more than twice", Pathwarden.PEER, 5, 6);
        int third = route(x, 5, 6, 9);
        always(x, "3 to 1", Pathwarden.CUSTOMER, 5, 6);
        x.withdraw(third);
        always(x, "withdrawn", Pathwarden.PEER, 5, 6);
        always(x, "both vote for 9", Pathwarden.CUSTOMER, 6, 9);
        route(x, 9, 6);
        always(x, "behind the top the vote is for 9 too", Pathwarden.CUSTOMER, 6, 9);
    }

    /** In the round 0 nets 5 and 6 have as many neighbours; from then on 6 has more customers. */
    private static void ranksChangeInRounds() {
        Pathwarden x = new Pathwarden();
        route(x, 0, 3);
        route(x, 1, 3);
        route(x, 0, 4, 3);
        route(x, 1, 4);
        route(x, 5, 2, 3);
        route(x, 5, 3);
        route(x, 7, 6);
        route(x, 8, 6);
        route(x, 5, 6);
        due.is("29: 3, 4 and 0", 8 + 16 + 1, x::clique);
        relation(x, "5 and 6", 5, 6, Pathwarden.PROVIDER, Pathwarden.CUSTOMER, Pathwarden.CUSTOMER);
        always(x, "5 and 2", Pathwarden.CUSTOMER, 5, 2);
        always(x, "7 and 6", Pathwarden.CUSTOMER, 7, 6);
        due.is("31: by the round 2", 32 + 64 + 128 + 256, () -> x.cone(6));
        due.is("31: by the round 2 alone", 32, () -> x.cone(5));
        due.is("32: by the round 2", 32 + 64 + 128 + 256, () -> x.coneByPaths(6));
    }

    private static void nineNeighbours() {
        Pathwarden x = new Pathwarden();
        for (int net = 1; net < 10; net++) {
            route(x, net, 0);
        }
        due.is("29: the one with nine", 1 + 2, x::clique);
        due.is("31: eight below it, one is its peer", 1023 - 2, () -> x.cone(0));
        due.is("32: the same", 1023 - 2, () -> x.coneByPaths(0));
    }

    /** Questions asked before leave nothing behind, for the net 0 as for the others. */
    private static void askedAgain() {
        Pathwarden x = new Pathwarden();
        route(x, 2, 1, 9);
        route(x, 3, 1, 9);
        route(x, 2, 9);
        int first = route(x, 0, 6, 9);
        due.is("29: 9, 1 and 2", 512 + 2 + 4, x::clique);
        always(x, "0 below 6", Pathwarden.CUSTOMER, 0, 6);
        x.withdraw(first);
        always(x, "none of 6", Pathwarden.NOTHING, 0, 6);
        int second = route(x, 6, 0, 9);
        always(x, "0 above 6", Pathwarden.PROVIDER, 0, 6);
        due.is("31: 6 below 0", 1 + 64, () -> x.cone(0));
        due.is("31: 6 below 0 below 9", 512 + 1 + 64, () -> x.cone(9));
        x.withdraw(second);
        due.is("31: nothing below 0", 1, () -> x.cone(0));
        due.is("29: still", 512 + 2 + 4, x::clique);
        route(x, 0, 5, 9);
        due.is("31: 0 below 5 below 9", 512 + 32 + 1, () -> x.cone(9));
        due.is("31: 0 below 5", 32 + 1, () -> x.cone(5));
    }

    private static void betweenTwoOfTheClique() {
        Pathwarden x = new Pathwarden();
        route(x, 1, 5, 9);
        route(x, 2, 1, 9);
        route(x, 3, 1, 9);
        route(x, 2, 9);
        route(x, 9, 4);
        due.is("29: 1, 9 and 2", 2 + 512 + 4, x::clique);
        always(x, "the first of the clique is the top", Pathwarden.CUSTOMER, 5, 1);
        always(x, "and all behind it go down", Pathwarden.CUSTOMER, 9, 5);
        due.is("32: 5 is not ahead of 1", 2 + 8, () -> x.coneByPaths(1));
        due.is("31: 5 is below 1, and 9 below 5", 2 + 8 + 32 + 512 + 16, () -> x.cone(1));
    }

    private static void noNeighbours() {
        Pathwarden x = new Pathwarden();
        route(x, 3);
        due.is("31: itself", 8, () -> x.cone(3));
        due.is("32: itself", 8, () -> x.coneByPaths(3));
        due.is("33: all", 256, () -> x.addresses(3));
        due.is("33: none", 0, () -> x.addresses(4));
    }

    private static void routesThatDoNotTell() {
        Pathwarden x = new Pathwarden();
        route(x, 4, 5, 4);
        due.is("29: a path that runs round tells nothing", 0, x::clique);
        always(x, "of a path that runs round", Pathwarden.NOTHING, 4, 5);
        due.is("32: of a path that runs round", 16, () -> x.coneByPaths(4));
        due.is("33: it counts here", 256, () -> x.addresses(4));
        int gone = route(x, 6, 7);
        due.is("29: of a path", 64 + 128, x::clique);
        x.withdraw(gone);
        due.is("29: a withdrawn path tells nothing", 0, x::clique);
        due.is("33: nor has it addresses", 0, () -> x.addresses(6));
    }

    private static void cones() {
        Pathwarden x = new Pathwarden();
        route(x, 5, 6, 9);
        route(x, 2, 1, 9);
        route(x, 3, 1, 9);
        route(x, 2, 9);
        route(x, 4, 5, 9);
        due.is("29: 9, 1 and 2", 512 + 2 + 4, x::clique);
        due.is("31: customers of customers", 64 + 32 + 16, () -> x.cone(6));
        due.is("32: 4 goes on no path to 6", 64 + 32, () -> x.coneByPaths(6));
        due.is("31: peers of the clique are not in it", 512 + 64 + 32 + 16, () -> x.cone(9));
        due.is("32: nor here", 512 + 64 + 32 + 16, () -> x.coneByPaths(9));
        due.is("31: 3 below 1", 2 + 8, () -> x.cone(1));
        due.is("32: 3 ahead of 1", 2 + 8, () -> x.coneByPaths(1));
        due.is("31: none below", 16, () -> x.cone(4));
        due.is("32: none ahead", 16, () -> x.coneByPaths(4));
        due.is("31: not on a path", 128, () -> x.cone(7));
        route(x, 7, 9, 6);
        due.is("31: behind the top", 512 + 128 + 64 + 32 + 16, () -> x.cone(9));
        due.is("32: a net behind it is not ahead of it", 64 + 32, () -> x.coneByPaths(6));
        route(x, 9, 5, 8);
        due.is("31: 8 is below 5", 256 + 32 + 16, () -> x.cone(5));
        due.is("32: 8 comes behind it", 32 + 16, () -> x.coneByPaths(5));
    }

    private static void addresses() {
        Pathwarden x = new Pathwarden();
        RoutesTest.route(x, 0, 2, 1, 2);
        RoutesTest.route(x, 0, 3, 1, 2);
        RoutesTest.route(x, 32, 3, 1, 3);
        RoutesTest.route(x, 255, 8, 1, 4);
        due.is("33: blocks that lie in one another count once", 65, () -> x.addresses(1));
        RoutesTest.route(x, 254, 7, 5, 3);
        RoutesTest.route(x, 128, 2, 2, 6, 2);
        due.is("29: 1 and 3", 2 + 8, x::clique);
        due.is("33: a path that runs round, with its origin", 64, () -> x.addresses(2));
        due.is("33: 2 and 4 below 1", 65 + 64, () -> x.addresses(1));
        due.is("33: 5 below 3", 2, () -> x.addresses(3));
        due.is("33: net 9", 0, () -> x.addresses(9));
        x.withdraw(0);
        due.is("33: what is left", 64 + 1 + 64, () -> x.addresses(1));
        x.withdraw(1);
        due.is("33: what is left then, and 2 has no neighbours", 32 + 1, () -> x.addresses(1));
        RoutesTest.route(x, 0, 0, 1);
        due.is("33: all", 256, () -> x.addresses(1));
    }

    private static void wrongNumbers() {
        Pathwarden x = new Pathwarden();
        route(x, 0, 9);
        for (int wrong : new int[] {-1, 10, Integer.MIN_VALUE, Integer.MAX_VALUE}) {
            due.fails("30: one", Due.INDEX, () -> x.inferred(wrong, 0, 0));
            due.fails("30: other", Due.INDEX, () -> x.inferred(0, wrong, 0));
            due.fails("31: net", Due.INDEX, () -> x.cone(wrong));
            due.fails("32: net", Due.INDEX, () -> x.coneByPaths(wrong));
            due.fails("33: net", Due.INDEX, () -> x.addresses(wrong));
        }
        due.fails("30: round 3", Due.INDEX, () -> x.inferred(0, 9, 3));
        due.fails("30: round -1", Due.INDEX, () -> x.inferred(0, 9, -1));
        due.fails("30: round 3, of the same", Due.INDEX, () -> x.inferred(0, 0, 3));
        due.is("30: round 2", Pathwarden.PEER, () -> x.inferred(0, 9, 2));
    }
}
