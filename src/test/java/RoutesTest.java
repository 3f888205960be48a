/** Promises 13 to 16 and 23: hop, hear, withdraw, tie, routes. */
public final class RoutesTest {
    private static final Due due = new Due("RoutesTest");

    public static void main(String[] args) {
        hop();
        hear();
        hearThrows();
        sameNetsCountOnce();
        withdraw();
        tie();
        tieThrows();
        due.end();
    }

    static int route(Pathwarden x, int value, int length, int... nets) {
        for (int net : nets) {
            x.hop(net);
        }
        return x.hear(value, length);
    }

    private static void hop() {
        Pathwarden x = new Pathwarden();
        due.fails("13: net 10", Due.INDEX, () -> x.hop(10));
        due.fails("13: net -1", Due.INDEX, () -> x.hop(-1));
        for (int n = 1; n <= 6; n++) {
            int want = n;
            due.is("13: hop", want, () -> x.hop(want < 4 ? 9 : want));
        }
        due.fails("13: it has 6", Due.STATE, () -> x.hop(9));
        due.fails("13: the net ahead of that", Due.INDEX, () -> x.hop(10));
        due.is("13: the draft is heard", 0, () -> x.hear(0, 0));
        due.is("13: a new draft", 1, () -> x.hop(0));
    }

    private static void hear() {
        Pathwarden x = new Pathwarden();
        for (int n = 0; n < 24; n++) {
            int want = n;
            due.is("23: routes", want, x::routes);
            x.hop(n % 10);
            due.is("14: hear", want, () -> x.hear(255, 8));
            due.fails("14: the draft is empty then", Due.STATE, () -> x.hear(255, 8));
        }
        x.withdraw(5);
        x.hop(3);
        due.fails("14: 24 were heard", Due.STATE, () -> x.hear(0, 0));
        due.fails("14: the range ahead of that", Due.ARGUMENT, () -> x.hear(0, 9));
        due.is("14: the draft is as it was", 2, () -> x.hop(3));
        due.is("23: routes, those withdrawn too", 24, x::routes);
    }

    private static void hearThrows() {
        Pathwarden x = new Pathwarden();
        x.hop(0);
        due.fails("14: value 256", Due.ARGUMENT, () -> x.hear(256, 8));
        due.fails("14: value -1", Due.ARGUMENT, () -> x.hear(-1, 8));
        due.fails("14: length 9", Due.ARGUMENT, () -> x.hear(0, 9));
        due.fails("14: length -1", Due.ARGUMENT, () -> x.hear(0, -1));
        due.fails("14: other bits", Due.ARGUMENT, () -> x.hear(64, 1));
        due.is("23: none", 0, x::routes);
        due.is("14: the draft stands", 2, () -> x.hop(1));
        due.is("14: heard", 0, () -> x.hear(192, 2));
        due.fails("14: empty, behind the range", Due.ARGUMENT, () -> x.hear(256, 8));
        due.fails("14: empty", Due.STATE, () -> x.hear(0, 0));
    }

    private static void sameNetsCountOnce() {
        Pathwarden x = new Pathwarden();
        x.vouch(0, 2, 0, 10);
        int once = route(x, 0, 0, 1, 1, 2, 2, 2, 3);
        due.is("14: 1 2 3", Pathwarden.INVALID, () -> x.path(once, true));
        due.is("14: 1 and 2 are the clique", Pathwarden.PEER, () -> x.inferred(1, 2, 0));
        due.is("14: 3 behind 2", Pathwarden.CUSTOMER, () -> x.inferred(3, 2, 0));
        due.is("14: 3 is none of 1", Pathwarden.NOTHING, () -> x.inferred(3, 1, 0));
        due.is("14: no neighbour of itself", Pathwarden.NOTHING, () -> x.inferred(2, 2, 0));
        int one = route(x, 0, 0, 7, 7, 7, 7, 7, 7);
        due.is("14: 7", Pathwarden.VALID, () -> x.path(one, true));
        int round = route(x, 0, 0, 7, 8, 8, 7);
        due.is("14: 7 8 7", Pathwarden.INVALID, () -> x.path(round, false));
    }

    private static void withdraw() {
        Pathwarden x = new Pathwarden();
        due.fails("15: no route 0", Due.INDEX, () -> x.withdraw(0));
        route(x, 0, 0, 1, 2);
        route(x, 0, 0, 2, 3);
        route(x, 0, 0, 3, 4);
        due.fails("15: no route 3", Due.INDEX, () -> x.withdraw(3));
        due.fails("15: no route -1", Due.INDEX, () -> x.withdraw(-1));
        due.is("15: two are there", 2, () -> x.withdraw(1));
        due.fails("15: it is withdrawn", Due.STATE, () -> x.withdraw(1));
        due.fails("24: withdrawn", Due.INDEX, () -> x.path(1, true));
        due.fails("25: withdrawn", Due.INDEX, () -> x.leak(1));
        due.fails("26: withdrawn", Due.INDEX, () -> x.stopped(1, 0));
        due.is("15: its nets are no neighbours any more", Pathwarden.NOTHING, () -> x.inferred(2, 3, 0));
        due.is("15: one is there", 1, () -> x.withdraw(0));
        due.is("15: another is heard", 3, () -> route(x, 0, 0, 5, 6));
        due.is("15: one is there", 1, () -> x.withdraw(2));
        due.is("15: none is there", 0, () -> x.withdraw(3));
        due.is("23: four were heard", 4, x::routes);
    }

    private static void tie() {
        Pathwarden x = new Pathwarden();
        due.is("16: nothing", Pathwarden.NOTHING, () -> x.tie(1, 2, Pathwarden.CUSTOMER));
        due.is("16: one is a customer", Pathwarden.CUSTOMER, () -> x.tie(1, 2, Pathwarden.CUSTOMER));
        due.is("16: the other a provider", Pathwarden.PROVIDER, () -> x.tie(2, 1, Pathwarden.PEER));
        due.is("16: peers", Pathwarden.PEER, () -> x.tie(1, 2, Pathwarden.PEER));
        due.is("16: peers, asked from the other side", Pathwarden.PEER, () -> x.tie(2, 1, Pathwarden.PROVIDER));
        due.is("16: a provider told", Pathwarden.CUSTOMER, () -> x.tie(1, 2, Pathwarden.NOTHING));
        due.is("16: nothing again", Pathwarden.NOTHING, () -> x.tie(2, 1, Pathwarden.CUSTOMER));
        due.is("16: and told anew", Pathwarden.PROVIDER, () -> x.tie(1, 2, Pathwarden.NOTHING));
        due.is("16: nets 0 and 9", Pathwarden.NOTHING, () -> x.tie(0, 9, Pathwarden.PEER));
        due.is("16: others are not touched", Pathwarden.NOTHING, () -> x.tie(0, 1, Pathwarden.PEER));
    }

    private static void tieThrows() {
        Pathwarden x = new Pathwarden();
        x.tie(0, 1, Pathwarden.PROVIDER);
        due.fails("16: net 10", Due.INDEX, () -> x.tie(10, 0, 1));
        due.fails("16: net -1", Due.INDEX, () -> x.tie(-1, 0, 1));
        due.fails("16: other 10, ahead of what", Due.INDEX, () -> x.tie(0, 10, 4));
        due.fails("16: other -1", Due.INDEX, () -> x.tie(0, -1, 1));
        due.fails("16: both 10", Due.INDEX, () -> x.tie(10, 10, 1));
        due.fails("16: both the same", Due.ARGUMENT, () -> x.tie(3, 3, 1));
        due.fails("16: what 4", Due.ARGUMENT, () -> x.tie(0, 1, 4));
        due.fails("16: what -1", Due.ARGUMENT, () -> x.tie(0, 1, -1));
        due.is("16: the tie stands", Pathwarden.PROVIDER, () -> x.tie(0, 1, 0));
    }
}
