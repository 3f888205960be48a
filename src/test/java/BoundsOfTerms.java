/** The sentences of "What it is" and of "Terms" that name a bound. */
final class BoundsOfTerms {
    private static final Run NEW = Run.NEW;

    private final Sentences s;

    private BoundsOfTerms(Sentences s) {
        this.s = s;
    }

    static void tell(Sentences s) {
        BoundsOfTerms all = new BoundsOfTerms(s);
        all.calls();
        s.section("Terms");
        all.questions();
        all.blocks();
        all.holders();
        all.objects();
        all.kinds();
        all.signatures();
        all.wrongSignatures();
        all.verdicts();
        all.orderOfVerdicts();
        all.outside();
        all.whatHoldersHave();
        all.lists();
        all.origins();
        all.routes();
        all.steps();
        all.upwards();
        all.downwards();
        all.ties();
        all.leaks();
        all.filters();
        all.neighbours();
        all.clique();
        all.tops();
        all.votes();
        all.cones();
        all.refusals();
        s.noneLeftOut("Terms",
                "Holders sign, revoke, publish and roll their keys, routes are heard and withdrawn, ties of nets are told, days pass",
                "An object has a kind, an issuer, which is a holder, somebody to whom it is, a block, an extra and a last day",
                "The constants: `NONE = -1`: There is none.",
                "`GRANT = 0, ORIGIN = 1, VOUCHER = 2`: Kinds of objects.",
                "`GOOD = 0, LATE = 1, REVOKED = 2, STALE = 3, FORGED = 4, OUTSIDE = 5`: How objects are judged.",
                "`NOT_FOUND = 0, VALID = 1, INVALID = 2`: How origins and paths are.",
                "`NOTHING = 0, CUSTOMER = 1, PROVIDER = 2, PEER = 3`: What one net is to another one.",
                "the interface says: ---- holders.",
                "the interface says: ---- objects.",
                "the interface says: ---- routes and ties.",
                "the interface says: ---- what is asked: holders and objects.",
                "the interface says: ---- what is asked: routes.",
                "the interface says: ---- what is asked: relations and cones.");
        s.noneLeftOut("What it is",
                "A checker of routes: holders of address blocks under one another", "what later calls answer is free");
        s.noneLeftOut("Not promised",
                "How the state is held inside the object is free",
                "Use of one object from several threads at once is not promised to be safe.",
                "Nothing is promised beyond the answers and state changes described above");
    }

    private void calls() {
        s.section("What it is");
        s.says("An object is used for at most 512 calls after it has been made");
        s.is(NEW.times(511, "tie 0 1 1"), "tie 0 1 2", Pathwarden.CUSTOMER);
        s.is(NEW.times(511, "today"), "belong 9 0", 0);
        s.is(NEW.then("tie 0 1 1").times(510, "falseAlarms"), "allowed 0 1", 1);
        s.is(NEW.heard("0 0", 1, 2).times(508, "addresses 1"), "cone 2", 4);
        s.is(Runs.LINE.times(507, "hasByChains 2 160 3"), "has 2 160 3", 1);
    }

    /** A bit of everything, some of it revoked, altered, withdrawn, and a draft of two nets. */
    private static final Run RICH = Runs.LINE
            .then("belong 4 1", "belong 5 2", "roll 2", "vouch 1 4 32 50", "vouch 2 5 64 40", "vouch 0 6 0 30")
            .then("origin 2 4 160 3 4 35", "origin 1 5 128 1 1 20", "alter 6 2", "revoke 5", "publish 0 20", "revoke 6")
            .then("tie 4 5 1", "tie 5 6 1", "tie 6 7 3", "tie 7 8 2", "pass 3")
            .heard("160 3", 4, 5, 6, 7, 8).heard("128 1", 5, 6, 4).heard("0 0", 7, 6, 7).heard("64 2", 9, 4)
            .heard("255 8", 8, 7).then("withdraw 3").hops(2, 4);

    private void questions() {
        s.says("objects, origins, paths, relations, cones and leaks are asked, which changes nothing");
        String[] questions = {
            "today", "objects", "judged 0", "judged 6", "has 2 160 3", "has 1 0 0", "hasByChains 2 160 3",
            "hasByChains 1 0 0", "state 4 160 3", "state 9 0 0", "routes", "path 0 1", "path 0 0", "path 2 1", "leak 0",
            "leak 2", "stopped 0 1023", "stopped 1 0", "allowed 4 8", "allowed 4 4", "falseAlarms", "clique",
            "inferred 4 5 0", "inferred 4 5 2", "cone 4", "coneByPaths 6", "addresses 5",
        };
        for (String question : questions) {
            s.changesNothing(RICH, question);
        }
        s.changesNothing(RICH, questions);
        String[] between = {"?falseAlarms", "?inferred 0 9 2", "?path 0 1", "?state 0 0 0", "?hasByChains 1 0 0", "?addresses 0"};
        s.sameBehind(RICH.askedBetween(between), RICH);
        s.sameBehind(EMPTIED.askedBetween(between), EMPTIED);
    }

    /** All that was there is taken away again, of the nets 0 and 9 as of others, but for what comes last. */
    private static final Run EMPTIED = NEW
            .then("holder 0", "grant 0 1 0 0 9", "origin 1 0 0 0 0 9", "vouch 0 0 512 9", "vouch 0 9 256 9")
            .then("tie 0 9 1", "tie 9 5 1").heard("0 0", 4, 0, 9).heard("0 0", 9, 0).heard("0 0", 0, 5, 9, 6)
            .then("alter 2 1", "alter 3 1", "revoke 0", "publish 0 9", "tie 0 9 0", "tie 9 5 0")
            .then("withdraw 0", "withdraw 1", "withdraw 2").heard("0 0", 0, 1).heard("0 0", 9, 8).heard("0 0", 0, 9);

    private void blocks() {
        s.says("There are the addresses 0 to 255.");
        s.bounds(NEW, "has 0 # 8", 0, 255, Due.ARGUMENT);
        s.is(NEW.heard("0 8", 3), "addresses 3", 1);
        s.is(NEW.heard("255 8", 3), "addresses 3", 1);
        s.is(NEW.heard("0 0", 3), "addresses 3", 256);

        s.says("A block has a value and a length, 0 to 8");
        s.bounds(NEW, "has 0 0 #", 0, 8, Due.ARGUMENT);

        s.says("it has all addresses whose first bits, as many as the length tells, of 8, are those of the value");
        for (int length = 0; length <= 8; length++) {
            s.is(NEW.heard("0 " + length, 3), "addresses 3", 256 >> length);
        }
        for (int length = 1; length <= 8; length++) {
            int first = 128 >> length - 1;
            int last = first + (256 >> length) - 1;
            Run run = NEW.then("holder 0", "grant 0 1 " + first + " " + length + " 10");
            s.is(run, "has 1 " + first + " 8", 1);
            s.is(run, "has 1 " + last + " 8", 1);
            s.is(run, "has 1 " + (first - 1) + " 8", 0);
            if (last < 255) {
                s.is(run, "has 1 " + (last + 1) + " 8", 0);
            }
        }

        s.says("the others of the value are 0");
        s.firstBits(NEW, "has 0 # #", 1);
        s.is("has 0 254 7", 1);
        s.refuses("has 0 255 7", Due.ARGUMENT);

        s.says("A block lies in another one if all its addresses are in that one.");
        Run run = NEW.then("holder 0", "grant 0 1 64 2 10");
        for (String has : new String[] {"has", "hasByChains"}) {
            s.is(run, has + " 1 64 2", 1);
            s.is(run, has + " 1 64 3", 1);
            s.is(run, has + " 1 96 3", 1);
            s.is(run, has + " 1 0 2", 0);
            s.is(run, has + " 1 128 2", 0);
            s.is(run, has + " 1 192 2", 0);
            s.is(run, has + " 1 0 1", 0);
            s.is(run, has + " 1 0 0", 0);
        }
    }

    private void holders() {
        s.says("Today is the day 0 at first.");
        s.is("today", 0);
        s.is(NEW.then("grant 0 0 0 0 0"), "sign 0", Runs.signature(0, 0, 0, 0, 0, 0, 0, 0, 0));

        s.says("Holders are numbered from 0 on, at most 8");
        for (int n = 1; n < 8; n++) {
            s.is(NEW.times(n - 1, "holder 0"), "holder 0", n);
        }
        s.refuses(NEW.times(7, "holder 0"), "holder 0", Due.STATE);
        s.is(NEW.times(7, "holder 0"), "roll 7", 1);
        s.refuses(NEW.times(7, "holder 0"), "roll 8", Due.INDEX);

        s.says("the holder 0 is there, and each other one has a parent, which has a lesser number");
        s.is("has 0 0 0", 1);
        s.refuses("has 1 0 0", Due.INDEX);
        s.refuses("holder 1", Due.INDEX);
        s.is(NEW.then("holder 0"), "holder 1", 2);
        s.refuses(NEW.then("holder 0"), "holder 2", Due.INDEX);
        s.is(NEW.then("grant 0 0 0 0 9"), "judged 0", Pathwarden.OUTSIDE);

        s.says("There are the nets 0 to 9; each belongs to a holder, to the holder 0 at first.");
        s.bounds(NEW, "belong # 0", 0, 9, Due.INDEX);
        for (int net = 0; net < 10; net++) {
            s.is(NEW.then("holder 0"), "belong " + net + " 1", 0);
            s.is(NEW.then("vouch 0 " + net + " 0 0"), "judged 0", Pathwarden.GOOD);
        }

        s.says("Each holder has a key, a number, 0 at first, and a list of revoked objects, which is empty at first");
        for (int holder = 0; holder < 8; holder++) {
            s.is(NEW.times(7, "holder 0"), "roll " + holder, 1);
            s.is(NEW.times(7, "holder 0"), "publish " + holder + " 0", 0);
        }

        s.says("fresh up to the day on which the holder came and 30, together");
        Run first = NEW.then("origin 0 0 0 0 0 1000");
        s.is(first.days(30), "judged 0", Pathwarden.GOOD);
        s.is(first.days(31), "judged 0", Pathwarden.STALE);
        Run later = NEW.days(100).then("publish 0 100", "holder 0", "grant 0 1 0 0 1000", "origin 1 0 0 0 0 1000");
        s.is(later.days(30), "judged 1", Pathwarden.GOOD);
        s.is(later.days(31), "judged 1", Pathwarden.STALE);
        Run last = NEW.days(10000).then("publish 0 0", "holder 0", "grant 0 1 0 0 0", "origin 1 0 0 0 0 0");
        s.is(last, "judged 1", Pathwarden.GOOD);
    }

    private void objects() {
        s.says("Objects are numbered from 0 on, at most 50.");
        for (String call : new String[] {"grant 0 0 0 0 0", "origin 0 0 0 0 0 0", "vouch 0 0 0 0"}) {
            for (int n : new int[] {0, 1, 48, 49}) {
                s.is(NEW.times(n, call), call, n);
            }
            s.refuses(NEW.times(50, call), call, Due.STATE);
            s.is(NEW.times(50, call), "objects", 50);
            s.refuses(NEW.times(50, call), "judged 50", Due.INDEX);
        }
    }

    private void kinds() {
        s.says("a grant: a holder may have the block");
        s.is(NEW.then("holder 0"), "has 1 0 0", 0);
        s.is(NEW.then("holder 0", "grant 0 1 0 0 0"), "has 1 0 0", 1);

        s.says("its extra is 0");
        s.is(Runs.LINE, "sign 1", Runs.signature(1, 0, 0, 1, 2, 160, 3, 0, 1000));
        s.refuses(Runs.LINE, "alter 1 0", Due.STATE);

        s.says("an origin: a net may be the origin of blocks that lie in its block, of at most the length that the extra tells");
        for (int most = 0; most <= 8; most++) {
            Run run = NEW.then("origin 0 4 0 0 " + most + " 10");
            s.is(run, "state 4 0 " + most, Pathwarden.VALID);
            if (most < 8) {
                s.is(run, "state 4 0 " + (most + 1), Pathwarden.INVALID);
            }
        }
        s.is(NEW.then("origin 0 4 0 2 1 10"), "state 4 0 2", Pathwarden.INVALID);
        s.is(NEW.then("origin 0 4 0 2 1 10"), "state 4 0 1", Pathwarden.NOT_FOUND);

        s.says("all providers of a net are in the extra, a set of nets in which net n counts 2 to the power of n");
        for (int n = 0; n < 9; n++) {
            Run run = NEW.then("vouch 0 9 " + (1 << n) + " 10").heard("0 0", 9, n);
            s.is(run, "path 0 1", Pathwarden.VALID);
            Run but = NEW.then("vouch 0 9 " + (1023 - (1 << n)) + " 10").heard("0 0", 9, n);
            s.is(but, "path 0 1", Pathwarden.INVALID);
        }
        s.is(NEW.then("vouch 0 0 512 10").heard("0 0", 0, 9), "path 0 1", Pathwarden.VALID);
        s.is(NEW.then("vouch 0 0 511 10").heard("0 0", 0, 9), "path 0 1", Pathwarden.INVALID);

        s.says("it has the block with the value 0 and the length 0");
        s.is(NEW.then("vouch 0 9 1023 0"), "sign 0", Runs.signature(0, 0, 2, 0, 9, 0, 0, 1023, 0));
    }

    private void signatures() {
        s.says("All divisions are rounded down.");
        s.is(NEW.then("vouch 0 0 90 780"), "sign 0", 65520);
        s.is(NEW.then("vouch 0 0 186 895"), "sign 0", 0);

        s.says("Let d be 0 at first; for each of these numbers");
        s.is(NEW.then("grant 0 0 0 0 0"), "sign 0", Runs.signature(0, 0, 0, 0, 0, 0, 0, 0, 0));
        s.is(NEW.then("origin 0 0 0 0 0 0"), "sign 0", Runs.signature(0, 0, 1, 0, 0, 0, 0, 0, 0));
        s.is(NEW.then("vouch 0 0 0 0"), "sign 0", Runs.signature(0, 0, 2, 0, 0, 0, 0, 0, 0));

        s.says("d becomes the remainder of 263 times d, and that number, and 1, together, by 65521");
        // d itself is 65520 at last in the one, and 0 in the other.
        s.is(NEW.then("vouch 0 0 186 894"), "sign 0", 65490);
        s.is(NEW.then("vouch 0 0 187 632"), "sign 0", 0);
        Run end = NEW.times(7, "holder 0").times(100, "roll 7").days(10000);
        s.is(end.then("grant 7 7 255 8 1000"), "sign 0", Runs.signature(7, 100, 0, 7, 7, 255, 8, 0, 11000));
        s.is(end.then("origin 7 9 255 8 8 1000"), "sign 0", Runs.signature(7, 100, 1, 7, 9, 255, 8, 8, 11000));
        s.is(end.then("vouch 7 9 1023 1000"), "sign 0", Runs.signature(7, 100, 2, 7, 9, 0, 0, 1023, 11000));

        s.says("(101 times the issuer, and 17 times the key, together), together, by 65521");
        for (int issuer = 0; issuer < 8; issuer++) {
            Run run = NEW.times(7, "holder 0").then("origin " + issuer + " 0 0 0 0 0");
            s.is(run, "sign 0", Runs.signature(issuer, 0, 1, issuer, 0, 0, 0, 0, 0));
            s.is(run.times(100, "roll " + issuer), "sign 0", Runs.signature(issuer, 100, 1, issuer, 0, 0, 0, 0, 0));
        }
    }

    private void wrongSignatures() {
        s.says("An object has the signature that it was given when it was signed last.");
        Run altered = NEW.then("origin 0 0 0 0 3 10", "alter 0 4", "sign 0");
        s.is(altered, "judged 0", Pathwarden.GOOD);
        s.is(altered.then("alter 0 3"), "judged 0", Pathwarden.FORGED);
        s.is(altered.then("alter 0 3", "alter 0 4"), "judged 0", Pathwarden.GOOD);

        s.says("FORGED, if its signature is not that of its numbers as they are now by the key of the issuer now");
        Run voucher = NEW.then("vouch 0 0 0 100");
        s.is(voucher.then("alter 0 1"), "judged 0", Pathwarden.FORGED);
        s.is(voucher.then("roll 0"), "judged 0", Pathwarden.FORGED);
        s.is(voucher.times(58, "roll 0").then("alter 0 617"), "judged 0", Pathwarden.FORGED);
        // 31 * 263 * 617 and 7919 * 17 * 59 together can be divided by 65521: the old signature fits again.
        s.is(voucher.times(59, "roll 0").then("alter 0 617"), "judged 0", Pathwarden.GOOD);
        s.is(voucher.times(60, "roll 0").then("alter 0 617"), "judged 0", Pathwarden.FORGED);
        s.is(NEW.then("vouch 0 0 186 895"), "judged 0", Pathwarden.GOOD);
        s.is(NEW.then("vouch 0 0 90 780"), "judged 0", Pathwarden.GOOD);
    }

    private void verdicts() {
        s.says("LATE, if today is behind its last day");
        for (String call : new String[] {"grant 0 1 0 0 ", "origin 0 0 0 0 0 ", "vouch 0 0 0 "}) {
            Run start = NEW.then("holder 0");
            s.is(start.then(call + "0"), "judged 0", Pathwarden.GOOD);
            s.is(start.then(call + "0").days(1), "judged 0", Pathwarden.LATE);
            s.is(start.then(call + "9").days(9), "judged 0", Pathwarden.GOOD);
            s.is(start.then(call + "9").days(10), "judged 0", Pathwarden.LATE);
            s.is(start.then(call + "1000").days(1000).then("publish 0 0"), "judged 0", Pathwarden.GOOD);
            s.is(start.then(call + "1000").days(1001).then("publish 0 0"), "judged 0", Pathwarden.LATE);
            s.is(start.days(10000).then(call + "1000", "publish 0 0"), "judged 0", Pathwarden.GOOD);
        }

        s.says("REVOKED, if it is on the list of its issuer");
        s.is(Runs.LINE.then("revoke 0"), "judged 0", Pathwarden.GOOD);
        s.is(Runs.LINE.then("revoke 0", "publish 0 9"), "judged 0", Pathwarden.REVOKED);
        s.is(Runs.LINE.then("revoke 0", "publish 1 9"), "judged 0", Pathwarden.GOOD);
        s.is(Runs.LINE.then("revoke 0", "publish 0 9"), "judged 1", Pathwarden.OUTSIDE);

        s.says("STALE, if that list is not fresh any more");
        for (int days : new int[] {0, 1, 29, 30, 31, 100}) {
            Run run = NEW.then("origin 0 0 0 0 0 1000", "publish 0 " + days);
            s.is(run.days(days), "judged 0", Pathwarden.GOOD);
            s.is(run.days(days + 1), "judged 0", Pathwarden.STALE);
            s.is(run.days(days + 1).then("publish 0 0"), "judged 0", Pathwarden.GOOD);
        }
    }

    /** An object loses one fault after the other, from the greatest to the least. */
    private void orderOfVerdicts() {
        s.says("An object is judged today, by the first of these that is so:");
        Run all = NEW.then("holder 0", "origin 1 0 0 0 2 40", "alter 0 3", "revoke 0", "publish 1 2");
        s.is(all.days(41), "judged 0", Pathwarden.LATE);
        s.is(all.days(40), "judged 0", Pathwarden.REVOKED);
        s.is(all.days(3), "judged 0", Pathwarden.REVOKED);
        s.is(all.days(2), "judged 0", Pathwarden.REVOKED);
        Run free = NEW.then("holder 0", "origin 1 0 0 0 2 40", "alter 0 3", "publish 1 2");
        s.is(free.days(41), "judged 0", Pathwarden.LATE);
        s.is(free.days(3), "judged 0", Pathwarden.STALE);
        s.is(free.days(2), "judged 0", Pathwarden.FORGED);
        s.is(free.days(2).then("sign 0"), "judged 0", Pathwarden.OUTSIDE);
        s.is(free.days(2).then("sign 0", "grant 0 1 0 0 9"), "judged 0", Pathwarden.GOOD);
        s.is(NEW.then("holder 0", "origin 1 0 0 0 2 40").days(31), "judged 0", Pathwarden.STALE);
        s.is(NEW.then("origin 0 0 0 0 2 40", "revoke 0", "publish 0 9").days(10), "judged 0", Pathwarden.REVOKED);
    }

    private void outside() {
        s.says("OUTSIDE, if it is a grant whose issuer is not the parent of the holder to whom it is, or does not have the block");
        s.is(Runs.LINE.then("grant 0 1 0 0 9"), "judged 2", Pathwarden.GOOD);
        s.is(Runs.LINE.then("grant 0 2 160 3 9"), "judged 2", Pathwarden.OUTSIDE);
        s.is(Runs.LINE.then("grant 0 0 0 0 9"), "judged 2", Pathwarden.OUTSIDE);
        s.is(Runs.LINE.then("grant 1 1 128 1 9"), "judged 2", Pathwarden.OUTSIDE);
        s.is(Runs.LINE.then("grant 2 1 160 3 9"), "judged 2", Pathwarden.OUTSIDE);
        s.is(Runs.LINE.then("grant 1 0 128 1 9"), "judged 2", Pathwarden.OUTSIDE);
        s.is(Runs.LINE.then("grant 1 2 128 1 9"), "judged 2", Pathwarden.GOOD);
        s.is(Runs.LINE.then("grant 1 2 128 8 9"), "judged 2", Pathwarden.GOOD);
        s.is(Runs.LINE.then("grant 1 2 255 8 9"), "judged 2", Pathwarden.GOOD);
        s.is(Runs.LINE.then("grant 1 2 127 8 9"), "judged 2", Pathwarden.OUTSIDE);
        s.is(Runs.LINE.then("grant 1 2 0 0 9"), "judged 2", Pathwarden.OUTSIDE);

        s.says("or an origin whose issuer does not have the block");
        s.is(Runs.LINE.then("origin 0 3 0 0 0 9"), "judged 2", Pathwarden.GOOD);
        s.is(Runs.LINE.then("origin 2 3 160 3 0 9"), "judged 2", Pathwarden.GOOD);
        s.is(Runs.LINE.then("origin 2 3 128 2 8 9"), "judged 2", Pathwarden.OUTSIDE);
        s.is(Runs.LINE.then("origin 2 3 192 3 8 9"), "judged 2", Pathwarden.OUTSIDE);
        s.is(Runs.LINE.then("origin 2 3 191 8 8 9"), "judged 2", Pathwarden.GOOD);
        s.is(Runs.LINE.then("origin 2 3 192 8 8 9"), "judged 2", Pathwarden.OUTSIDE);
        s.is(Runs.LINE.then("origin 2 3 159 8 8 9"), "judged 2", Pathwarden.OUTSIDE);

        s.says("or a voucher for a net that does not belong to the issuer, or whose issuer has no block");
        s.is(Runs.LINE.then("vouch 0 3 1 9"), "judged 2", Pathwarden.GOOD);
        s.is(Runs.LINE.then("vouch 1 3 1 9"), "judged 2", Pathwarden.OUTSIDE);
        s.is(Runs.LINE.then("vouch 1 3 1 9", "belong 3 1"), "judged 2", Pathwarden.GOOD);
        s.is(Runs.LINE.then("vouch 0 3 1 9", "belong 3 1"), "judged 2", Pathwarden.OUTSIDE);
        Run third = Runs.LINE.then("holder 2", "belong 3 3", "vouch 3 3 1 9");
        s.is(third, "judged 2", Pathwarden.OUTSIDE);
        s.is(third.then("grant 2 3 192 8 9"), "judged 2", Pathwarden.OUTSIDE);
        s.is(third.then("grant 2 3 191 8 9"), "judged 2", Pathwarden.GOOD);
        s.is(third.then("grant 2 3 191 8 0").days(1), "judged 2", Pathwarden.OUTSIDE);
    }

    private void whatHoldersHave() {
        s.says("The holder 0 has all blocks; another holder has a block, if it lies in that of some GOOD grant to it.");
        for (String has : new String[] {"has", "hasByChains"}) {
            s.is(has + " 0 0 0", 1);
            s.is(has + " 0 0 8", 1);
            s.is(has + " 0 255 8", 1);
            s.is(NEW.then("holder 0"), has + " 1 0 8", 0);
            Run halves = NEW.then("holder 0", "grant 0 1 0 1 9", "grant 0 1 128 1 9");
            s.is(halves, has + " 1 0 1", 1);
            s.is(halves, has + " 1 128 1", 1);
            s.is(halves, has + " 1 0 0", 0);
            s.is(Runs.LINE.then("roll 1"), has + " 2 160 3", 0);
            s.is(Runs.LINE.then("roll 0"), has + " 2 160 3", 0);
            s.is(Runs.LINE.then("roll 0", "sign 0"), has + " 2 160 3", 1);
            s.is(Runs.LINE.times(48, "vouch 0 0 0 0"), has + " 2 160 3", 1);
            s.is(NEW.then("holder 0").times(49, "grant 0 1 0 1 9").then("grant 0 1 128 1 9"), has + " 1 128 1", 1);
            s.is(longestLine(7), has + " 7 0 0", 1);
            s.is(longestLine(7).then("roll 0"), has + " 7 0 0", 0);
            s.is(longestLine(6), has + " 7 0 0", 0);
            s.is(longestLine(6), has + " 6 0 0", 1);
        }
    }

    /** Eight holders in a line, and grants down to the last but some; those to the last ones come first. */
    private static Run longestLine(int grants) {
        Run run = NEW;
        for (int holder = 1; holder < 8; holder++) {
            run = run.then("holder " + (holder - 1));
        }
        for (int holder = grants; holder > 0; holder--) {
            run = run.then("grant " + (holder - 1) + " " + holder + " 0 0 99");
        }
        return run;
    }

    private void lists() {
        s.says("A revoked object comes onto the list of its issuer when that publishes the next time.");
        Run two = Runs.LINE.then("origin 1 4 128 1 1 99", "revoke 1", "revoke 2");
        s.is(two, "judged 1", Pathwarden.GOOD);
        s.is(two.days(30), "judged 1", Pathwarden.GOOD);
        s.is(two, "publish 1 0", 2);
        s.is(two, "publish 0 0", 0);
        s.is(two, "publish 2 0", 0);
        s.is(two.then("publish 1 0"), "publish 1 0", 2);
        s.is(two.then("publish 1 0"), "judged 2", Pathwarden.REVOKED);
        s.is(two.then("publish 1 0", "sign 2"), "judged 2", Pathwarden.REVOKED);
        s.is(Runs.LINE.then("publish 1 9", "revoke 1"), "judged 1", Pathwarden.GOOD);
        s.is(Runs.LINE.then("publish 1 9", "revoke 1", "publish 1 9"), "judged 1", Pathwarden.REVOKED);
        Run all = NEW.times(50, "origin 0 4 0 0 0 0");
        for (int object = 0; object < 50; object++) {
            all = all.then("revoke " + object);
        }
        s.is(all, "publish 0 100", 50);
        s.is(all.days(1), "publish 0 100", 50);
    }

    private void origins() {
        s.says("A block and a net are VALID, if the block lies in that of some GOOD origin which is for this net, and its length is at most the extra of that");
        Run run = NEW.then("origin 0 4 128 1 3 10");
        s.is(run, "state 4 128 1", Pathwarden.VALID);
        s.is(run, "state 4 224 3", Pathwarden.VALID);
        s.is(run, "state 4 224 4", Pathwarden.INVALID);
        s.is(run, "state 5 128 1", Pathwarden.INVALID);
        s.is(run.then("origin 0 5 128 1 1 10"), "state 4 128 1", Pathwarden.VALID);
        s.is(NEW.then("origin 0 5 128 1 1 10").then("origin 0 4 128 1 1 10"), "state 4 128 1", Pathwarden.VALID);
        s.is(NEW.times(49, "origin 0 5 0 0 8 10").then("origin 0 4 0 0 8 10"), "state 4 0 8", Pathwarden.VALID);

        s.says("otherwise INVALID, if it lies in the block of some GOOD origin; otherwise NOT_FOUND.");
        s.is("state 0 0 0", Pathwarden.NOT_FOUND);
        s.is("state 9 255 8", Pathwarden.NOT_FOUND);
        s.is(run, "state 4 0 0", Pathwarden.NOT_FOUND);
        s.is(run, "state 4 127 8", Pathwarden.NOT_FOUND);
        s.is(run, "state 4 128 8", Pathwarden.INVALID);
        s.is(run.days(10), "state 4 128 1", Pathwarden.VALID);
        s.is(run.days(11), "state 4 128 1", Pathwarden.NOT_FOUND);
        s.is(run.then("alter 0 4"), "state 4 128 1", Pathwarden.NOT_FOUND);
        s.is(run.then("revoke 0", "publish 0 9"), "state 5 128 1", Pathwarden.NOT_FOUND);
        Run others = NEW.then("holder 0", "grant 0 1 0 0 9", "vouch 0 4 0 9");
        s.is(others, "state 1 0 0", Pathwarden.NOT_FOUND);
        s.is(others, "state 4 0 0", Pathwarden.NOT_FOUND);
    }

    private void routes() {
        s.says("Routes are numbered from 0 on, at most 24 are heard.");
        for (int n : new int[] {0, 1, 22, 23}) {
            s.is(Runs.routes(n).hops(n % 10), "hear 0 0", n);
            s.is(Runs.routes(n), "routes", n);
        }
        s.refuses(Runs.routes(24).hops(9), "hear 0 0", Due.STATE);
        s.is(Runs.routes(24), "routes", 24);
        s.is(Runs.routes(24), "path 23 1", Pathwarden.VALID);
        s.refuses(Runs.routes(24), "path 24 1", Due.INDEX);
        s.refuses(Runs.routes(24).then("withdraw 0").hops(9), "hear 0 0", Due.STATE);

        s.says("A route has a block and a path of 1 to 6 nets, the first of which is its origin");
        s.is(NEW.hops(0), "hear 0 0", 0);
        s.refuses("hear 0 0", Due.STATE);
        s.is(NEW.hops(0, 1, 2, 3, 4, 5), "hear 0 0", 0);
        s.refuses(NEW.hops(0, 1, 2, 3, 4, 5), "hop 6", Due.STATE);
        s.is(NEW.heard("0 0", 9, 8, 9), "addresses 9", 256);
        s.is(NEW.heard("0 0", 9, 8, 9), "addresses 8", 0);

        s.says("nets that follow themselves count once");
        s.sameBehind(NEW.heard("0 0", 1, 1, 2, 2, 2, 3), NEW.heard("0 0", 1, 2, 3));
        s.sameBehind(NEW.heard("0 0", 7, 7, 7, 7, 7, 7), NEW.heard("0 0", 7));
        s.sameBehind(NEW.heard("0 0", 0, 0), NEW.heard("0 0", 0));
        s.sameBehind(NEW.heard("0 0", 1, 2, 2, 1), NEW.heard("0 0", 1, 2, 1));
        s.is(NEW.heard("0 0", 1, 2, 1), "path 0 1", Pathwarden.INVALID);
        s.is(NEW.heard("0 0", 9, 9, 9, 9, 9, 9), "path 0 1", Pathwarden.VALID);

        s.says("It runs round, if a net comes twice in what is left.");
        s.is(NEW.heard("0 0", 0, 1, 2, 3, 4, 5), "path 0 0", Pathwarden.NOT_FOUND);
        s.is(NEW.heard("0 0", 0, 1, 2, 3, 4, 0), "path 0 0", Pathwarden.INVALID);
        s.is(NEW.heard("0 0", 9, 1, 9), "path 0 0", Pathwarden.INVALID);
        s.is(NEW.heard("0 0", 5, 4, 3, 2, 9, 2), "path 0 1", Pathwarden.INVALID);
        s.is(NEW.heard("0 0", 9, 9, 8, 8), "path 0 1", Pathwarden.NOT_FOUND);

        s.says("It is there until it is withdrawn.");
        s.is(Runs.routes(2).then("withdraw 0"), "path 1 1", Pathwarden.VALID);
        s.refuses(Runs.routes(2).then("withdraw 0"), "path 0 1", Due.INDEX);
        s.is(Runs.routes(24).days(10000), "withdraw 23", 23);
    }

    private void steps() {
        s.says("A net a vouches for b, if there is some GOOD voucher for a, and b is among the providers of one of them");
        Run step = NEW.heard("0 0", 1, 2);
        s.is(step.then("vouch 0 1 4 9"), "path 0 1", Pathwarden.VALID);
        s.is(step.then("vouch 0 1 4 9", "vouch 0 1 0 9"), "path 0 1", Pathwarden.VALID);
        s.is(step.then("vouch 0 1 0 9", "vouch 0 1 4 9"), "path 0 1", Pathwarden.VALID);
        s.is(step.times(49, "vouch 0 1 0 9").then("vouch 0 1 4 9"), "path 0 1", Pathwarden.VALID);
        s.is(NEW.then("vouch 0 9 1 9").heard("0 0", 9, 0), "path 0 1", Pathwarden.VALID);
        s.is(NEW.then("vouch 0 0 512 9").heard("0 0", 0, 9), "path 0 1", Pathwarden.VALID);

        s.says("it denies b, if there is some, and b is in none; otherwise it is silent");
        s.is(step, "path 0 1", Pathwarden.NOT_FOUND);
        s.is(step.then("vouch 0 1 0 9"), "path 0 1", Pathwarden.INVALID);
        s.is(step.then("vouch 0 1 1019 9"), "path 0 1", Pathwarden.INVALID);
        s.is(step.then("vouch 0 1 512 9", "vouch 0 1 1 9"), "path 0 1", Pathwarden.INVALID);
        s.is(step.then("vouch 0 2 0 9", "vouch 0 0 0 9"), "path 0 1", Pathwarden.NOT_FOUND);
        s.is(step.then("vouch 0 1 0 0"), "path 0 1", Pathwarden.INVALID);
        s.is(step.then("vouch 0 1 0 0").days(1), "path 0 1", Pathwarden.NOT_FOUND);
        s.is(step.then("vouch 0 1 0 9", "alter 0 1"), "path 0 1", Pathwarden.NOT_FOUND);
        s.is(step.then("vouch 0 1 0 9", "holder 0", "belong 1 1"), "path 0 1", Pathwarden.NOT_FOUND);
        s.is(step.then("vouch 0 1 0 9", "revoke 0", "publish 0 9"), "path 0 1", Pathwarden.NOT_FOUND);
    }

    private void upwards() {
        Run six = NEW.heard("0 0", 0, 1, 2, 3, 4, 5);
        Run vouched = six.then("vouch 0 0 2 9", "vouch 0 1 4 9", "vouch 0 2 8 9", "vouch 0 3 16 9", "vouch 0 4 32 9");

        s.says("Judging a path upwards: INVALID, if it runs round, or some net denies the next one");
        s.is(NEW.then("vouch 0 1 4 9", "vouch 0 2 2 9").heard("0 0", 1, 2, 1), "path 0 1", Pathwarden.INVALID);
        s.is(six.then("vouch 0 0 0 9"), "path 0 1", Pathwarden.INVALID);
        s.is(six.then("vouch 0 4 0 9"), "path 0 1", Pathwarden.INVALID);
        s.is(six.then("vouch 0 5 0 9"), "path 0 1", Pathwarden.NOT_FOUND);
        s.is(vouched.then("alter 4 0", "sign 4"), "path 0 1", Pathwarden.INVALID);
        s.is(vouched.then("alter 0 0", "sign 0"), "path 0 1", Pathwarden.INVALID);

        s.says("otherwise VALID, if each net vouches for the next one, as in a path of one net; otherwise NOT_FOUND");
        s.is(NEW.heard("0 0", 0), "path 0 1", Pathwarden.VALID);
        s.is(NEW.then("vouch 0 9 0 9").heard("0 0", 9), "path 0 1", Pathwarden.VALID);
        s.is(NEW.heard("0 0", 0, 1), "path 0 1", Pathwarden.NOT_FOUND);
        s.is(vouched, "path 0 1", Pathwarden.VALID);
        s.is(vouched.then("vouch 0 5 0 9"), "path 0 1", Pathwarden.VALID);
        s.is(vouched.then("alter 0 0"), "path 0 1", Pathwarden.NOT_FOUND);
        s.is(vouched.then("alter 4 0"), "path 0 1", Pathwarden.NOT_FOUND);
    }

    private void downwards() {
        s.says("Judging a path of n nets downwards: INVALID, if it runs round.");
        s.is(NEW.heard("0 0", 1, 2, 1), "path 0 0", Pathwarden.INVALID);
        s.is(NEW.heard("0 0", 1, 2, 3), "path 0 0", Pathwarden.NOT_FOUND);

        s.says("Otherwise go up from the first net as long as the net does not deny the next one, and count the nets, the first one included");
        s.is(NEW.heard("0 0", 1, 2, 3).then("vouch 0 1 0 9", "vouch 0 3 0 9"), "path 0 0", Pathwarden.INVALID);
        s.is(NEW.heard("0 0", 1, 2, 3).then("vouch 0 2 0 9", "vouch 0 3 0 9"), "path 0 0", Pathwarden.NOT_FOUND);
        s.is(NEW.heard("0 0", 1, 2, 3).then("vouch 0 3 0 9"), "path 0 0", Pathwarden.NOT_FOUND);

        s.says("and go back from the last net as long as the net does not deny the one before it, and count likewise; if both counts together are less than n, it is INVALID");
        s.is(NEW.heard("0 0", 1, 2, 3).then("vouch 0 1 0 9", "vouch 0 2 0 9"), "path 0 0", Pathwarden.NOT_FOUND);
        s.is(NEW.heard("0 0", 1, 2, 3).then("vouch 0 1 0 9"), "path 0 0", Pathwarden.NOT_FOUND);
        Run one = NEW.heard("0 0", 1).then("vouch 0 1 0 9");
        s.is(one, "path 0 0", Pathwarden.VALID);
        Run two = NEW.heard("0 0", 1, 2).then("vouch 0 1 0 9", "vouch 0 2 0 9");
        s.is(two, "path 0 0", Pathwarden.VALID);
        Run three = NEW.heard("0 0", 1, 2, 3).then("vouch 0 1 0 9", "vouch 0 3 0 9");
        s.is(three, "path 0 0", Pathwarden.INVALID);
        s.is(three.then("alter 0 4", "sign 0"), "path 0 0", Pathwarden.VALID);
        s.is(three.then("alter 1 4", "sign 1"), "path 0 0", Pathwarden.VALID);
        s.is(three.then("alter 0 4"), "path 0 0", Pathwarden.NOT_FOUND);
        s.is(three.then("alter 1 4"), "path 0 0", Pathwarden.NOT_FOUND);
        Run six = NEW.heard("0 0", 0, 1, 2, 3, 4, 5);
        s.is(six.then("vouch 0 0 0 9", "vouch 0 5 0 9"), "path 0 0", Pathwarden.INVALID);
        s.is(six.then("vouch 0 2 0 9", "vouch 0 3 0 9"), "path 0 0", Pathwarden.NOT_FOUND);
        s.is(six.then("vouch 0 2 0 9", "vouch 0 4 0 9"), "path 0 0", Pathwarden.INVALID);
        s.is(six.then("vouch 0 1 0 9", "vouch 0 3 0 9"), "path 0 0", Pathwarden.INVALID);
        s.is(six.then("vouch 0 4 0 9", "vouch 0 5 0 9"), "path 0 0", Pathwarden.NOT_FOUND);
        s.is(six.then("vouch 0 0 0 9", "vouch 0 1 0 9"), "path 0 0", Pathwarden.NOT_FOUND);

        s.says("If they are at least n also when going on only as long as the net vouches for that one, it is VALID; otherwise NOT_FOUND.");
        s.is(NEW.heard("0 0", 1), "path 0 0", Pathwarden.VALID);
        s.is(NEW.heard("0 0", 1, 2), "path 0 0", Pathwarden.VALID);
        s.is(NEW.heard("0 0", 1, 2, 3), "path 0 0", Pathwarden.NOT_FOUND);
        s.is(six.then("vouch 0 0 2 9", "vouch 0 1 4 9", "vouch 0 5 16 9", "vouch 0 4 8 9"), "path 0 0", Pathwarden.VALID);
        s.is(six.then("vouch 0 0 2 9", "vouch 0 1 4 9", "vouch 0 5 16 9"), "path 0 0", Pathwarden.NOT_FOUND);
        s.is(six.then("vouch 0 0 2 9", "vouch 0 5 16 9", "vouch 0 4 8 9"), "path 0 0", Pathwarden.NOT_FOUND);
        Run up = six.then("vouch 0 0 2 9", "vouch 0 1 4 9", "vouch 0 2 8 9", "vouch 0 3 16 9");
        s.is(up, "path 0 0", Pathwarden.VALID);
        Run back = six.then("vouch 0 5 16 9", "vouch 0 4 8 9", "vouch 0 3 4 9", "vouch 0 2 2 9");
        s.is(back, "path 0 0", Pathwarden.VALID);
        s.is(back.then("alter 3 0"), "path 0 0", Pathwarden.NOT_FOUND);
    }

    private void ties() {
        s.says("It can be told of two nets that one is a customer of the other one, which is its provider then, or that they are peers.");
        s.is(NEW.then("tie 0 9 1"), "tie 0 9 0", Pathwarden.CUSTOMER);
        s.is(NEW.then("tie 0 9 1"), "tie 9 0 0", Pathwarden.PROVIDER);
        s.is(NEW.then("tie 0 9 2"), "tie 9 0 0", Pathwarden.CUSTOMER);
        s.is(NEW.then("tie 0 9 3"), "tie 9 0 0", Pathwarden.PEER);
        s.is(NEW.then("tie 0 9 3", "tie 9 0 0"), "tie 0 9 0", Pathwarden.NOTHING);
        s.sameBehind(NEW.then("tie 4 5 1"), NEW.then("tie 5 4 2"));
        s.sameBehind(NEW.then("tie 4 5 3"), NEW.then("tie 5 4 3"));

        s.says("A path is allowed, if it does not run round, two nets that follow one another always have a tie");
        s.is(NEW.then("tie 1 2 1"), "allowed 1 2", 1);
        s.is(NEW.then("tie 1 2 1", "tie 3 2 1"), "allowed 1 3", 1);
        s.is(NEW.then("tie 1 2 1", "tie 3 2 1", "tie 3 2 0"), "allowed 1 3", 0);
        s.is(NEW.then("tie 1 2 1", "tie 3 2 1"), "falseAlarms", 0);

        s.says("for each net between two others the one before it, or the one behind it, is its customer");
        s.is(NEW.then("tie 1 2 1", "tie 2 3 1"), "allowed 1 3", 1);
        s.is(NEW.then("tie 1 2 2", "tie 2 3 2"), "allowed 1 3", 1);
        s.is(NEW.then("tie 1 2 1", "tie 2 3 3"), "allowed 1 3", 1);
        s.is(NEW.then("tie 1 2 3", "tie 2 3 2"), "allowed 1 3", 1);
        s.is(NEW.then("tie 1 2 3", "tie 2 3 3"), "allowed 1 3", 0);
        s.is(NEW.then("tie 1 2 3", "tie 2 3 1"), "allowed 1 3", 0);
        s.is(NEW.then("tie 1 2 2", "tie 2 3 1"), "allowed 1 3", 0);
        s.is(NEW.then("tie 1 2 2", "tie 2 3 3"), "allowed 1 3", 0);
        s.is(NEW.then("tie 1 2 1", "tie 2 3 1", "tie 3 4 3", "tie 4 5 2"), "allowed 1 5", 1);
        s.is(NEW.then("tie 1 2 1", "tie 2 3 3", "tie 3 4 3", "tie 4 5 2"), "allowed 1 5", 0);
    }

    private void leaks() {
        s.says("A route leaks at a net that has a net ahead of it and one behind it in the path, which may be the same one, if it has ties to both, and neither of them is its customer.");
        Run peers = NEW.then("tie 1 2 3", "tie 2 3 3", "tie 3 4 3", "tie 4 5 3", "tie 5 6 3");
        s.is(peers.heard("0 0", 2), "leak 0", Pathwarden.NONE);
        s.is(peers.heard("0 0", 1, 2), "leak 0", Pathwarden.NONE);
        s.is(peers.heard("0 0", 1, 2, 3), "leak 0", 2);
        s.is(peers.heard("0 0", 1, 2, 1), "leak 0", 2);
        s.is(peers.then("tie 1 2 0").heard("0 0", 1, 2, 3), "leak 0", Pathwarden.NONE);
        s.is(peers.then("tie 3 2 0").heard("0 0", 1, 2, 3), "leak 0", Pathwarden.NONE);
        s.is(peers.then("tie 1 2 1").heard("0 0", 1, 2, 3), "leak 0", Pathwarden.NONE);
        s.is(peers.then("tie 3 2 1").heard("0 0", 1, 2, 3), "leak 0", Pathwarden.NONE);
        s.is(peers.then("tie 1 2 1").heard("0 0", 1, 2, 1), "leak 0", Pathwarden.NONE);
        s.is(peers.then("tie 1 2 2", "tie 3 2 2").heard("0 0", 1, 2, 3), "leak 0", 2);
        s.is(peers.heard("0 0", 1, 2, 3, 4, 5, 6), "leak 0", 2);
        Run last = peers.then("tie 1 2 0", "tie 2 3 0", "tie 3 4 0");
        s.is(last.heard("0 0", 1, 2, 3, 4, 5, 6), "leak 0", 5);
        s.is(last.heard("0 0", 1, 2, 3, 7, 4, 5), "leak 0", Pathwarden.NONE);
    }

    private void filters() {
        s.says("A net with a filter refuses a path that comes to it, if its block and its first net are INVALID");
        Run block = NEW.then("origin 0 0 128 1 2 9");
        s.is(block.heard("192 2", 0, 1), "stopped 0 1023", Pathwarden.NONE);
        s.is(block.heard("192 3", 0, 1), "stopped 0 1023", 1);
        s.is(block.heard("128 1", 9, 1), "stopped 0 1023", 1);
        s.is(block.heard("0 0", 9, 1), "stopped 0 1023", Pathwarden.NONE);
        s.is(block.heard("128 1", 9), "stopped 0 1023", Pathwarden.NONE);
        s.is(block.heard("128 1", 9, 1, 0), "stopped 0 1", 0);
        s.is(block.heard("128 1", 8, 1, 9), "stopped 0 512", 9);

        s.says("or the path, without the net itself, is INVALID, judged downwards, if the last net of that is told to be its provider, otherwise upwards");
        Run denied = NEW.then("vouch 0 1 0 9").heard("0 0", 1, 2, 3);
        s.is(denied, "stopped 0 4", Pathwarden.NONE);
        s.is(denied, "stopped 0 8", 3);
        s.is(denied.then("tie 2 3 3"), "stopped 0 8", 3);
        s.is(denied.then("tie 2 3 1"), "stopped 0 8", 3);
        s.is(denied.then("tie 2 3 2"), "stopped 0 8", Pathwarden.NONE);
        s.is(denied.then("tie 1 2 2"), "stopped 0 8", 3);
        Run round = NEW.heard("0 0", 1, 2, 1, 3);
        s.is(round, "stopped 0 2", Pathwarden.NONE);
        s.is(round, "stopped 0 8", 3);
        s.is(round.then("tie 1 3 2"), "stopped 0 8", 3);
    }

    private void neighbours() {
        s.says("Inferred relations are found from all routes that are there and do not run round.");
        s.is("clique", 0);
        s.is(NEW.heard("0 0", 1, 2), "clique", 6);
        s.is(NEW.heard("0 0", 1, 2).then("withdraw 0"), "clique", 0);
        s.is(NEW.heard("0 0", 1, 2, 1), "clique", 0);
        s.is(NEW.heard("0 0", 1, 2, 1), "inferred 1 2 0", Pathwarden.NOTHING);
        s.is(NEW.heard("0 0", 1, 2).heard("0 0", 3, 4, 3).then("withdraw 0"), "clique", 0);
        s.is(Runs.routes(23).heard("0 0", 8, 9), "clique", 256 + 512);

        s.says("Neighbours are nets that follow one another in some of these.");
        Run path = NEW.heard("0 0", 0, 1, 2, 3, 4, 9);
        s.is(path, "inferred 0 1 0", Pathwarden.CUSTOMER);
        s.is(path, "inferred 9 4 0", Pathwarden.CUSTOMER);
        s.is(path, "inferred 0 2 0", Pathwarden.NOTHING);
        s.is(path, "inferred 0 9 0", Pathwarden.NOTHING);
        s.is(path, "inferred 5 6 2", Pathwarden.NOTHING);
        s.is(NEW.heard("0 0", 3), "inferred 3 3 0", Pathwarden.NOTHING);
    }

    private void clique() {
        s.says("The clique: nets are gone through by falling numbers of neighbours, those with as many by rising numbers; a net with neighbours is taken, if all that were taken are its neighbours.");
        s.is(Runs.routes(24), "clique", 0);
        s.is(NEW.heard("0 0", 0, 9), "clique", 1 + 512);
        s.is(NEW.heard("0 0", 9, 8).heard("0 0", 1, 0), "clique", 1 + 2);
        s.is(NEW.heard("0 0", 0, 1).heard("0 0", 9, 8).heard("0 0", 9, 7), "clique", 512 + 128);
        s.is(NEW.heard("0 0", 0, 1, 2), "clique", 1 + 2);
        s.is(Runs.everyPair(), "clique", 1023);
        // 0, 1, 9, 2, 8 and 3 are no neighbours in turn any more: 4 to 7, then 0 and 3, then 2 are taken.
        s.is(Runs.everyPair().then("withdraw 0"), "clique", 1023 - 2 - 256 - 512);
    }

    private void always(Run run, int one, int other, int want) {
        for (int round = 0; round < 3; round++) {
            s.is(run, "inferred " + one + " " + other + " " + round, want);
        }
    }

    private void tops() {
        s.says("In each round 0, 1 and 2 the path of each of these routes that has two or more nets has a top");
        always(NEW.heard("0 0", 5), 5, 5, Pathwarden.NOTHING);
        s.is(NEW.heard("0 0", 5), "cone 5", 32);
        always(Runs.CORE.heard("0 0", 5, 6), 6, 5, Pathwarden.CUSTOMER);
        s.refuses(Runs.CORE.heard("0 0", 5, 6), "inferred 6 5 3", Due.INDEX);
        s.refuses(Runs.CORE.heard("0 0", 5, 6), "inferred 6 5 -1", Due.INDEX);

        s.says("has a top: the first net that is of the clique; without one the first net of the greatest rank");
        s.is(Runs.CORE, "clique", 15);
        always(Runs.CORE.heard("0 0", 5, 0, 1, 6), 5, 0, Pathwarden.CUSTOMER);
        always(Runs.CORE.heard("0 0", 5, 0, 1, 6), 6, 1, Pathwarden.CUSTOMER);
        always(Runs.CORE.heard("0 0", 0, 5, 1), 5, 0, Pathwarden.CUSTOMER);
        always(Runs.CORE.heard("0 0", 0, 5, 1), 1, 5, Pathwarden.CUSTOMER);
        Run equal = Runs.CORE.heard("0 0", 4, 5, 6, 7);
        always(equal, 4, 5, Pathwarden.CUSTOMER);
        always(equal, 6, 5, Pathwarden.CUSTOMER);
        always(equal, 7, 6, Pathwarden.CUSTOMER);
        // 1 is of the clique and has two neighbours; 5 is not, and has three.
        Run small = NEW.heard("0 0", 1, 0, 2).heard("0 0", 3, 0, 4).heard("0 0", 6, 5, 1).heard("0 0", 7, 5);
        s.is(small, "clique", 3);
        always(small, 5, 1, Pathwarden.CUSTOMER);
        always(small, 7, 5, Pathwarden.CUSTOMER);

        s.says("which in the round 0 is the number of its neighbours, and in the others the number of nets that are its customers in the round before");
        // 5 has three neighbours and 9 has two; then each has one customer; then 9 alone has one.
        Run turns = NEW.heard("0 0", 5, 9, 6).heard("0 0", 9, 5).heard("0 0", 2, 8, 5).heard("0 0", 5, 0, 2, 7);
        s.is(turns, "clique", 5);
        s.is(turns, "inferred 5 9 0", Pathwarden.PROVIDER);
        s.is(turns, "inferred 5 9 1", Pathwarden.PEER);
        s.is(turns, "inferred 5 9 2", Pathwarden.CUSTOMER);
        s.is(turns, "cone 9", 512 + 64 + 32);
        s.is(turns, "coneByPaths 9", 512 + 32);
    }

    private void votes() {
        s.says("Of each two nets that follow one another, and are not both of the clique, the first one has a vote for the second one as its provider, if the second one is at the top or ahead of it; otherwise the second one has a vote for the first one as its provider.");
        Run over = Runs.CORE.heard("0 0", 4, 5, 0, 6, 7);
        always(over, 4, 5, Pathwarden.CUSTOMER);
        always(over, 5, 0, Pathwarden.CUSTOMER);
        always(over, 0, 6, Pathwarden.PROVIDER);
        always(over, 6, 7, Pathwarden.PROVIDER);
        always(Runs.CORE.heard("0 0", 9, 0), 9, 0, Pathwarden.CUSTOMER);
        always(Runs.CORE.heard("0 0", 0, 9), 9, 0, Pathwarden.CUSTOMER);

        s.says("Two neighbours are peers in a round, if both are of the clique");
        Run many = Runs.CORE;
        for (int n = 0; n < 22; n++) {
            many = many.heard("0 0", 0, 1);
        }
        always(many, 0, 1, Pathwarden.PEER);
        always(many, 3, 2, Pathwarden.PEER);
        always(NEW.heard("0 0", 0, 9), 9, 0, Pathwarden.PEER);

        s.says("otherwise one is a customer of the other one, if it has more than twice as many votes for that one as the other way round; if neither is, they are peers");
        votesOf(1, 0, Pathwarden.CUSTOMER);
        votesOf(1, 1, Pathwarden.PEER);
        votesOf(2, 1, Pathwarden.PEER);
        votesOf(3, 1, Pathwarden.CUSTOMER);
        votesOf(4, 2, Pathwarden.PEER);
        votesOf(5, 2, Pathwarden.CUSTOMER);
        votesOf(14, 7, Pathwarden.PEER);
        votesOf(15, 7, Pathwarden.CUSTOMER);
        votesOf(22, 0, Pathwarden.CUSTOMER);
    }

    /** So many routes in which 5 has a vote for 6, and so many in which 6 has one for 5. */
    private void votesOf(int for6, int for5, int want) {
        Run run = Runs.CORE;
        Run turned = Runs.CORE;
        for (int n = 0; n < for6; n++) {
            run = run.heard("0 0", 5, 6, 0);
            turned = turned.heard("0 0", 6, 5, 0);
        }
        for (int n = 0; n < for5; n++) {
            run = run.heard("0 0", 6, 5, 0);
            turned = turned.heard("0 0", 5, 6, 0);
        }
        always(run, 5, 6, want);
        always(turned, 6, 5, want);
        always(run, 6, 5, want == Pathwarden.CUSTOMER ? Pathwarden.PROVIDER : want);
    }

    private void cones() {
        // From 2 up to 9 each net is a customer of the next one, and 9 and 5 are customers of 0.
        Run line = NEW.heard("0 0", 5, 6, 7, 8, 9, 0).heard("0 0", 2, 3, 4, 5, 0).heard("0 0", 2, 1, 0).heard("0 0", 3, 1, 0);
        // 5, 6 and 7 are customers of one another in a ring.
        Run ring = Runs.CORE.heard("0 0", 5, 6, 0).heard("0 0", 6, 7, 0).heard("0 0", 7, 5, 0);

        s.says("The cone of a net by relations has it, and all customers, in the round 2, of nets in it.");
        s.is("cone 0", 1);
        s.is("cone 9", 512);
        s.is(line, "clique", 3);
        s.is(line, "cone 9", 1020);
        s.is(line, "cone 0", 1021);
        s.is(line, "cone 1", 2 + 4 + 8);
        s.is(line, "cone 2", 4);
        s.is(ring, "cone 5", 32 + 64 + 128);
        s.is(ring, "cone 6", 32 + 64 + 128);
        s.is(ring, "cone 0", 1 + 32 + 64 + 128);
        s.is(Runs.CORE, "cone 0", 1);
        s.is(Runs.everyPair(), "cone 0", 1);

        s.says("The cone by paths has it, and all nets ahead of it in the path of some of the routes from which relations are found");
        s.is("coneByPaths 0", 1);
        s.is("coneByPaths 9", 512);
        s.is(line, "coneByPaths 9", 512 + 256 + 128 + 64 + 32);
        s.is(line, "coneByPaths 0", 1021);
        s.is(line, "coneByPaths 5", 32 + 16 + 8 + 4);
        s.is(line, "coneByPaths 2", 4);
        s.is(ring, "coneByPaths 5", 32 + 128);
        s.is(NEW.heard("0 0", 4, 5, 4), "coneByPaths 5", 32);
        s.is(line.then("withdraw 0"), "coneByPaths 9", 512);

        s.says("from which on up to it each one is a customer, in the round 2, of the next one");
        // 5 and 6 have a vote each for the other one: the chain is broken between them.
        Run broken = Runs.CORE.heard("0 0", 4, 5, 6, 7, 0).heard("0 0", 6, 5, 0);
        s.is(broken, "inferred 5 6 2", Pathwarden.PEER);
        s.is(broken, "coneByPaths 7", 128 + 64);
        s.is(broken, "coneByPaths 0", 1 + 128 + 64 + 32);
        s.is(broken, "cone 0", 1 + 128 + 64 + 32 + 16);
    }

    private void refusals() {
        s.says("A call that throws an exception changes nothing.");
        String[] index = {
            "holder 3", "belong 10 0", "belong 0 3", "roll 3", "publish 3 0", "grant 3 0 0 0 0", "grant 0 3 0 0 0",
            "origin 3 0 0 0 0 0", "origin 0 10 0 0 0 0", "vouch 3 0 0 0", "vouch 0 10 0 0", "revoke 7", "alter 7 0",
            "sign 7", "hop 10", "withdraw 5", "tie 10 0 1", "tie 0 10 1", "judged 7", "has 3 0 0", "hasByChains 3 0 0",
            "state 10 0 0", "path 5 1", "path 3 0", "leak 5", "leak 3", "stopped 5 0", "stopped 3 0", "allowed 10 0",
            "allowed 0 10", "inferred 10 0 0", "inferred 0 10 0", "inferred 0 1 3", "cone 10", "coneByPaths 10",
            "addresses 10",
        };
        String[] argument = {
            "publish 1 101", "pass 0", "pass 101", "grant 0 1 256 8 0", "grant 0 1 0 9 0", "grant 0 1 0 0 1001",
            "grant 0 1 1 7 0", "origin 0 0 256 8 0 0", "origin 0 0 0 9 0 0", "origin 0 0 0 0 9 0", "origin 0 0 0 0 0 1001",
            "vouch 0 0 1024 0", "vouch 0 0 0 1001", "alter 2 1024", "alter 5 9", "hear 256 8", "hear 0 9", "hear 1 7",
            "tie 4 5 4", "tie 4 4 0", "has 1 256 8", "hasByChains 1 0 9", "state 4 1 7", "stopped 0 1024",
        };
        String[] state = {"alter 0 0", "alter 1 9", "withdraw 3"};
        for (String call : index) {
            s.refuses(RICH, call, Due.INDEX);
        }
        for (String call : argument) {
            s.refuses(RICH, call, Due.ARGUMENT);
        }
        for (String call : state) {
            s.refuses(RICH, call, Due.STATE);
        }

        s.says("If several apply, the one that the throws clause names first is thrown.");
        s.refuses(RICH, "grant 3 3 256 9 1001", Due.INDEX);
        s.refuses(RICH, "alter 0 1024", Due.STATE);
        s.refuses(RICH, "alter 7 1024", Due.INDEX);
        s.refuses(NEW, "hear 256 9", Due.ARGUMENT);
    }
}
