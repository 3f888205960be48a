/** Runs of calls that several tests begin with, and what is due of signatures. */
final class Runs {
    private static final Run NEW = Run.NEW;

    /** All eight holders, the others below the holder 0. */
    static final Run EIGHT = NEW.times(7, "holder 0");

    /** Holders 1 and 2 in a line below the holder 0, with a chain of grants: objects 0 and 1. */
    static final Run LINE = NEW.then("holder 0", "holder 1", "grant 0 1 128 1 1000", "grant 1 2 160 3 1000");

    /** Nets 0 to 3 are the clique, and stay it as long as no net from 4 on has more than three neighbours. */
    static final Run CORE = NEW.heard("0 0", 0, 1, 2, 3).heard("0 0", 2, 0, 3, 1);

    /** A grant, an origin and a voucher, which are the objects 0, 1 and 2, all of them good. */
    static final Run KINDS = NEW.then("holder 0", "grant 0 1 0 0 1000", "origin 0 4 0 0 3 1000", "vouch 0 5 6 1000");

    private Runs() {
    }

    /** As the document's words tell it, by numbers that overflow nowhere. */
    static long signature(long issuer, long key, long... numbers) {
        long d = 0;
        for (long number : numbers) {
            d = (263 * d + number + 1) % 65521;
        }
        return (31 * d + 7919 * (101 * issuer + 17 * key)) % 65521;
    }

    /** So many routes of one net each. */
    static Run routes(int count) {
        Run run = NEW;
        for (int n = 0; n < count; n++) {
            run = run.heard("0 0", n % 10);
        }
        return run;
    }

    /** All nets are neighbours of all others: five ways through all ten nets, each cut in two. */
    static Run everyPair() {
        Run run = NEW;
        for (int start = 0; start < 5; start++) {
            int[] way = new int[10];
            for (int at = 0; at < 10; at++) {
                int step = at % 2 == 0 ? -at / 2 : (at + 1) / 2;
                way[at] = (start + step + 10) % 10;
            }
            run = run.heard("0 0", way[0], way[1], way[2], way[3], way[4], way[5]);
            run = run.heard("0 0", way[5], way[6], way[7], way[8], way[9]);
        }
        return run;
    }
}
