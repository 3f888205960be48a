/**
 * A checker of routes: holders of address blocks and the objects that they sign, the origins and
 * paths of routes, the ties of nets, and the relations and cones that are inferred from paths.
 *
 * <p>A set of nets is an int in which net n counts 2 to the power of n. All rows are made once, in
 * constructors; no call makes an object but an exception that it throws, so that a long run of calls
 * needs hardly more room than a new Pathwarden.
 */
public final class Pathwarden {
    public static final int NONE = -1;
    public static final int GRANT = 0, ORIGIN = 1, VOUCHER = 2;
    public static final int GOOD = 0, LATE = 1, REVOKED = 2, STALE = 3, FORGED = 4, OUTSIDE = 5;
    public static final int NOT_FOUND = 0, VALID = 1, INVALID = 2;
    public static final int NOTHING = 0, CUSTOMER = 1, PROVIDER = 2, PEER = 3;

    private static final int NETS = 10;
    private static final int ALL_NETS = 1023;
    private static final int ADDRESSES = 256;
    private static final int BITS = 8;

    private static final int MOST_HOLDERS = 8;
    private static final int MOST_KEY = 100;
    private static final int FIRST_FRESHNESS = 30;
    private static final int LONGEST_FRESHNESS = 100;
    private static final int LONGEST_PASS = 100;
    private static final int LAST_DAY_OF_ALL = 10000;

    private static final int MOST_OBJECTS = 50;
    private static final int LONGEST_VALIDITY = 1000;

    private static final int MOST_ROUTES = 24;
    private static final int LONGEST_PATH = 6;
    private static final int LONGEST_TRIED_PATH = 5;
    private static final int ROUNDS = 3;
    private static final int LAST_ROUND = 2;

    private final Registry registry;
    private final SignedObjects signed;
    private final Judge judge;
    private final RouteBook book;
    private final Ties ties;
    private final PathJudge pathJudge;
    private final AllowedPaths search;
    private final Relations relations;

    public Pathwarden() {
        registry = new Registry();
        signed = new SignedObjects();
        judge = new Judge(registry, signed);
        book = new RouteBook();
        ties = new Ties();
        pathJudge = new PathJudge(ties);
        search = new AllowedPaths(ties, pathJudge);
        relations = new Relations(book);
    }

    // ---- holders

    public int holder(int parent) throws IndexOutOfBoundsException, IllegalStateException {
        needHolder(parent);
        if (registry.count >= MOST_HOLDERS) {
            throw new IllegalStateException("there are as many holders as there may be");
        }
        return registry.add(parent);
    }

    public int belong(int net, int holder) throws IndexOutOfBoundsException {
        needNet(net);
        needHolder(holder);
        int before = registry.owner[net];
        registry.owner[net] = holder;
        return before;
    }

    public int roll(int holder) throws IndexOutOfBoundsException, IllegalStateException {
        needHolder(holder);
        if (registry.key[holder] >= MOST_KEY) {
            throw new IllegalStateException("the key can be rolled no further");
        }
        registry.key[holder]++;
        return registry.key[holder];
    }

    public int publish(int holder, int days) throws IndexOutOfBoundsException, IllegalArgumentException {
        needHolder(holder);
        needRange(days, 0, LONGEST_FRESHNESS);
        registry.freshUpTo[holder] = registry.day + days;
        return signed.listRevokedOf(holder);
    }

    public int pass(int days) throws IllegalArgumentException, IllegalStateException {
        needRange(days, 1, LONGEST_PASS);
        if (registry.day + days > LAST_DAY_OF_ALL) {
            throw new IllegalStateException("so many days are not left");
        }
        registry.day += days;
        return registry.day;
    }

    // ---- objects

    public int grant(int issuer, int whom, int value, int length, int days)
            throws IndexOutOfBoundsException, IllegalArgumentException, IllegalStateException {
        needHolder(issuer);
        needHolder(whom);
        needBlock(value, length);
        needRange(days, 0, LONGEST_VALIDITY);
        needRoomForObject();
        return keep(signed.add(GRANT, issuer, whom, value, length, 0, registry.day + days));
    }

    public int origin(int issuer, int net, int value, int length, int most, int days)
            throws IndexOutOfBoundsException, IllegalArgumentException, IllegalStateException {
        needHolder(issuer);
        needNet(net);
        needBlock(value, length);
        needRange(most, 0, BITS);
        needRange(days, 0, LONGEST_VALIDITY);
        needRoomForObject();
        return keep(signed.add(ORIGIN, issuer, net, value, length, most, registry.day + days));
    }

    public int vouch(int issuer, int net, int providers, int days)
            throws IndexOutOfBoundsException, IllegalArgumentException, IllegalStateException {
        needHolder(issuer);
        needNet(net);
        needRange(providers, 0, ALL_NETS);
        needRange(days, 0, LONGEST_VALIDITY);
        needRoomForObject();
        return keep(signed.add(VOUCHER, issuer, net, 0, 0, providers, registry.day + days));
    }

    public boolean revoke(int object) throws IndexOutOfBoundsException {
        needObject(object);
        boolean isNew = !signed.revoked[object];
        signed.revoked[object] = true;
        return isNew;
    }

    public int alter(int object, int extra)
            throws IndexOutOfBoundsException, IllegalStateException, IllegalArgumentException {
        needObject(object);
        if (signed.kind[object] == GRANT) {
            throw new IllegalStateException("a grant has no extra to alter");
        }
        needRange(extra, 0, signed.kind[object] == ORIGIN ? BITS : ALL_NETS);
        int before = signed.extra[object];
        signed.extra[object] = extra;
        return before;
    }

    public int sign(int object) throws IndexOutOfBoundsException {
        needObject(object);
        return putSignature(object);
    }

    // ---- routes and ties

    public int hop(int net) throws IndexOutOfBoundsException, IllegalStateException {
        needNet(net);
        if (book.drafted >= LONGEST_PATH) {
            throw new IllegalStateException("the draft is full");
        }
        book.draft[book.drafted] = net;
        book.drafted++;
        return book.drafted;
    }

    public int hear(int value, int length) throws IllegalArgumentException, IllegalStateException {
        needBlock(value, length);
        if (book.drafted == 0 || book.count >= MOST_ROUTES) {
            throw new IllegalStateException("the draft is empty, or no more routes can be heard");
        }
        return book.addDraft(value, length);
    }

    public int withdraw(int route) throws IndexOutOfBoundsException, IllegalStateException {
        if (route < 0 || route >= book.count) {
            throw new IndexOutOfBoundsException("no such route");
        }
        if (book.withdrawn[route]) {
            throw new IllegalStateException("the route is withdrawn");
        }
        book.withdrawn[route] = true;
        book.there--;
        return book.there;
    }

    public int tie(int one, int other, int what) throws IndexOutOfBoundsException, IllegalArgumentException {
        needNet(one);
        needNet(other);
        if (one == other) {
            throw new IllegalArgumentException("a net has no tie to itself");
        }
        needRange(what, NOTHING, PEER);
        int before = ties.between(one, other);
        ties.tell(one, other, what);
        return before;
    }

    // ---- what is asked: holders and objects

    public int today() {
        return registry.day;
    }

    public int objects() {
        return signed.count;
    }

    public int judged(int object) throws IndexOutOfBoundsException {
        needObject(object);
        judge.judgeAll();
        return judge.verdict[object];
    }

    public boolean has(int holder, int value, int length) throws IndexOutOfBoundsException, IllegalArgumentException {
        needHolder(holder);
        needBlock(value, length);
        judge.judgeAll();
        return judge.holds(holder, value, length);
    }

    public boolean hasByChains(int holder, int value, int length)
            throws IndexOutOfBoundsException, IllegalArgumentException {
        needHolder(holder);
        needBlock(value, length);
        return judge.holdsByChains(holder, value, length);
    }

    public int state(int net, int value, int length) throws IndexOutOfBoundsException, IllegalArgumentException {
        needNet(net);
        needBlock(value, length);
        judge.judgeAll();
        return judge.originState(net, value, length);
    }

    // ---- what is asked: routes

    public int routes() {
        return book.count;
    }

    public int path(int route, boolean upwards) throws IndexOutOfBoundsException {
        needRouteThere(route);
        readVouchers();
        int[] nets = book.nets[route];
        int size = book.size[route];
        return upwards ? pathJudge.judgeUp(nets, size) : pathJudge.judgeDown(nets, size);
    }

    public int leak(int route) throws IndexOutOfBoundsException {
        needRouteThere(route);
        int[] nets = book.nets[route];
        for (int at = 1; at < book.size[route] - 1; at++) {
            if (ties.leaksAt(nets[at - 1], nets[at], nets[at + 1])) {
                return nets[at];
            }
        }
        return NONE;
    }

    public int stopped(int route, int filters) throws IndexOutOfBoundsException, IllegalArgumentException {
        needRouteThere(route);
        needRange(filters, 0, ALL_NETS);
        readVouchers();
        int[] nets = book.nets[route];
        boolean wrongOrigin = judge.originState(nets[0], book.value[route], book.length[route]) == INVALID;
        for (int at = 1; at < book.size[route]; at++) {
            if (isIn(filters, nets[at]) && (wrongOrigin || pathJudge.isRefusedAt(nets, at))) {
                return nets[at];
            }
        }
        return NONE;
    }

    public int allowed(int from, int to) throws IndexOutOfBoundsException {
        needNet(from);
        needNet(to);
        return from == to ? 0 : search.countTo(from, to);
    }

    public int falseAlarms() {
        readVouchers();
        return search.countRefused();
    }

    // ---- what is asked: relations and cones

    public int clique() {
        relations.infer();
        return relations.core;
    }

    public int inferred(int one, int other, int round) throws IndexOutOfBoundsException {
        needNet(one);
        needNet(other);
        if (round < 0 || round >= ROUNDS) {
            throw new IndexOutOfBoundsException("no such round");
        }
        relations.infer();
        return relations.between(one, other, round);
    }

    public int cone(int net) throws IndexOutOfBoundsException {
        needNet(net);
        relations.infer();
        return relations.coneOf(net);
    }

    public int coneByPaths(int net) throws IndexOutOfBoundsException {
        needNet(net);
        relations.infer();
        return relations.pathConeOf(net);
    }

    public int addresses(int net) throws IndexOutOfBoundsException {
        needNet(net);
        relations.infer();
        return book.countAddressesFrom(relations.coneOf(net));
    }

    // ---- what the calls share

    private void needHolder(int holder) {
        if (holder < 0 || holder >= registry.count) {
            throw new IndexOutOfBoundsException("no such holder");
        }
    }

    private static void needNet(int net) {
        if (net < 0 || net >= NETS) {
            throw new IndexOutOfBoundsException("no such net");
        }
    }

    private void needObject(int object) {
        if (object < 0 || object >= signed.count) {
            throw new IndexOutOfBoundsException("no such object");
        }
    }

    private void needRouteThere(int route) {
        if (route < 0 || route >= book.count || book.withdrawn[route]) {
            throw new IndexOutOfBoundsException("no such route, or it is withdrawn");
        }
    }

    private static void needRange(int number, int least, int most) {
        if (number < least || number > most) {
            throw new IllegalArgumentException("a number is out of range");
        }
    }

    private static void needBlock(int value, int length) {
        needRange(value, 0, ADDRESSES - 1);
        needRange(length, 0, BITS);
        if (Blocks.hasOthersThanFirstBits(value, length)) {
            throw new IllegalArgumentException("the value has others than its first bits");
        }
    }

    private void needRoomForObject() {
        if (signed.count >= MOST_OBJECTS) {
            throw new IllegalStateException("there are as many objects as there may be");
        }
    }

    private int keep(int object) {
        putSignature(object);
        return object;
    }

    private int putSignature(int object) {
        int signature = signed.signatureBy(object, registry.key[signed.issuer[object]]);
        signed.signature[object] = signature;
        return signature;
    }

    private void readVouchers() {
        judge.judgeAll();
        pathJudge.forgetVouchers();
        for (int object = 0; object < signed.count; object++) {
            if (signed.kind[object] == VOUCHER && judge.verdict[object] == GOOD) {
                pathJudge.addVoucher(signed.whom[object], signed.extra[object]);
            }
        }
    }

    private static boolean isIn(int set, int net) {
        return (set >> net & 1) == 1;
    }

    /** What is asked of blocks, which are two numbers and no objects, so that calls make none. */
    private static final class Blocks {
        static boolean hasOthersThanFirstBits(int value, int length) {
            return (value & (ADDRESSES - 1) >> length) != 0;
        }

        static boolean liesIn(int value, int length, int outerValue, int outerLength) {
            int others = BITS - outerLength;
            return length >= outerLength && value >> others == outerValue >> others;
        }
    }

    /** The holders, the nets that belong to them, and today. */
    private static final class Registry {
        private int day = 0;
        private int count = 1;
        private final int[] parent = new int[MOST_HOLDERS];
        private final int[] key = new int[MOST_HOLDERS];
        private final int[] freshUpTo = new int[MOST_HOLDERS];
        private final int[] owner = new int[NETS];

        Registry() {
            parent[0] = NONE;
            freshUpTo[0] = FIRST_FRESHNESS;
        }

        int add(int under) {
            int added = count;
            parent[added] = under;
            freshUpTo[added] = day + FIRST_FRESHNESS;
            count++;
            return added;
        }
    }

    /** The objects as they stand, whatever they are worth. */
    private static final class SignedObjects {
        private static final int MODULUS = 65521;

        private int count = 0;
        private final int[] kind = new int[MOST_OBJECTS];
        private final int[] issuer = new int[MOST_OBJECTS];
        private final int[] whom = new int[MOST_OBJECTS];
        private final int[] value = new int[MOST_OBJECTS];
        private final int[] length = new int[MOST_OBJECTS];
        private final int[] extra = new int[MOST_OBJECTS];
        private final int[] lastDay = new int[MOST_OBJECTS];
        private final int[] signature = new int[MOST_OBJECTS];
        private final boolean[] revoked = new boolean[MOST_OBJECTS];
        private final boolean[] listed = new boolean[MOST_OBJECTS];

        int add(int itsKind, int itsIssuer, int toWhom, int itsValue, int itsLength, int itsExtra, int upTo) {
            int added = count;
            kind[added] = itsKind;
            issuer[added] = itsIssuer;
            whom[added] = toWhom;
            value[added] = itsValue;
            length[added] = itsLength;
            extra[added] = itsExtra;
            lastDay[added] = upTo;
            count++;
            return added;
        }

        int listRevokedOf(int holder) {
            int onList = 0;
            for (int object = 0; object < count; object++) {
                if (issuer[object] == holder && revoked[object]) {
                    listed[object] = true;
                    onList++;
                }
            }
            return onList;
        }

        int signatureBy(int object, int key) {
            int digest = mix(0, kind[object]);
            digest = mix(digest, issuer[object]);
            digest = mix(digest, whom[object]);
            digest = mix(digest, value[object]);
            digest = mix(digest, length[object]);
            digest = mix(digest, extra[object]);
            digest = mix(digest, lastDay[object]);
            int seal = 7919 * (101 * issuer[object] + 17 * key);
            return (31 * digest + seal) % MODULUS;
        }

        private static int mix(int digest, int number) {
            return (263 * digest + number + 1) % MODULUS;
        }

        boolean covers(int object, int innerValue, int innerLength) {
            return Blocks.liesIn(innerValue, innerLength, value[object], length[object]);
        }
    }

    /** How the objects are judged today, and what follows for blocks. */
    private static final class Judge {
        private final Registry registry;
        private final SignedObjects signed;
        private final int[] verdict = new int[MOST_OBJECTS];
        private final boolean[] tried = new boolean[MOST_OBJECTS];

        Judge(Registry registry, SignedObjects signed) {
            this.registry = registry;
            this.signed = signed;
        }

        /**
         * Whether a grant is good hangs on the grants to its issuer alone, and that is a holder with
         * a lesser number; so the grants are judged by rising holders, and all others behind them.
         */
        void judgeAll() {
            for (int holder = 0; holder < registry.count; holder++) {
                for (int object = 0; object < signed.count; object++) {
                    if (isGrantTo(object, holder)) {
                        verdict[object] = judgeOne(object);
                    }
                }
            }
            for (int object = 0; object < signed.count; object++) {
                if (signed.kind[object] != GRANT) {
                    verdict[object] = judgeOne(object);
                }
            }
        }

        private boolean isGrantTo(int object, int holder) {
            return signed.kind[object] == GRANT && signed.whom[object] == holder;
        }

        private int judgeOne(int object) {
            int fault = faultOfItsOwn(object);
            if (fault != GOOD) {
                return fault;
            }
            return isOutside(object) ? OUTSIDE : GOOD;
        }

        /** The first fault that can be seen without looking at other objects; GOOD without one. */
        private int faultOfItsOwn(int object) {
            int issuer = signed.issuer[object];
            if (registry.day > signed.lastDay[object]) {
                return LATE;
            }
            if (signed.listed[object]) {
                return REVOKED;
            }
            if (registry.day > registry.freshUpTo[issuer]) {
                return STALE;
            }
            return signed.signature[object] == signed.signatureBy(object, registry.key[issuer]) ? GOOD : FORGED;
        }

        private boolean isOutside(int object) {
            int issuer = signed.issuer[object];
            int whom = signed.whom[object];
            if (signed.kind[object] == VOUCHER) {
                return registry.owner[whom] != issuer || !holdsAnything(issuer);
            }
            if (signed.kind[object] == GRANT && registry.parent[whom] != issuer) {
                return true;
            }
            return !holds(issuer, signed.value[object], signed.length[object]);
        }

        /** Asks the verdicts of the grants to the holder, which must stand already. */
        boolean holds(int holder, int value, int length) {
            boolean found = holder == 0;
            for (int object = 0; object < signed.count && !found; object++) {
                found = isGoodGrantTo(object, holder) && signed.covers(object, value, length);
            }
            return found;
        }

        private boolean holdsAnything(int holder) {
            boolean found = holder == 0;
            for (int object = 0; object < signed.count && !found; object++) {
                found = isGoodGrantTo(object, holder);
            }
            return found;
        }

        private boolean isGoodGrantTo(int object, int holder) {
            return isGrantTo(object, holder) && verdict[object] == GOOD;
        }

        boolean holdsByChains(int holder, int value, int length) {
            for (int object = 0; object < signed.count; object++) {
                tried[object] = false;
            }
            return chainReaches(holder, value, length, 0);
        }

        /** Whether some chain of grants that have the block goes from the holder up to the holder 0. */
        private boolean chainReaches(int holder, int value, int length, int depth) {
            if (depth >= MOST_HOLDERS) {
                return false;
            }
            boolean found = holder == 0;
            for (int object = 0; object < signed.count && !found; object++) {
                found = !tried[object]
                        && isLinkTo(object, holder)
                        && signed.covers(object, value, length)
                        && leadsUp(object, depth);
            }
            return found;
        }

        /**
         * What is above a grant does not hang on how it was reached, so one that was followed in vain
         * is left out from then on: else the chains would be far too many.
         */
        private boolean leadsUp(int object, int depth) {
            tried[object] = true;
            return chainReaches(signed.issuer[object], signed.value[object], signed.length[object], depth + 1);
        }

        private boolean isLinkTo(int object, int holder) {
            return isGrantTo(object, holder)
                    && signed.issuer[object] == registry.parent[holder]
                    && faultOfItsOwn(object) == GOOD;
        }

        /** Asks the verdicts of the origins, which must stand already. */
        int originState(int net, int value, int length) {
            int state = NOT_FOUND;
            for (int object = 0; object < signed.count && state != VALID; object++) {
                if (isGoodOriginOver(object, value, length)) {
                    state = signed.whom[object] == net && length <= signed.extra[object] ? VALID : INVALID;
                }
            }
            return state;
        }

        private boolean isGoodOriginOver(int object, int value, int length) {
            return signed.kind[object] == ORIGIN && verdict[object] == GOOD && signed.covers(object, value, length);
        }
    }

    /** The routes that were heard, and the draft of the next one. */
    private static final class RouteBook {
        private int count = 0;
        private int there = 0;
        private int drafted = 0;
        private final int[] draft = new int[LONGEST_PATH];
        private final int[][] nets = new int[MOST_ROUTES][LONGEST_PATH];
        private final int[] size = new int[MOST_ROUTES];
        private final int[] value = new int[MOST_ROUTES];
        private final int[] length = new int[MOST_ROUTES];
        private final boolean[] withdrawn = new boolean[MOST_ROUTES];

        /** Nets that follow themselves count once, so a route keeps the first of them alone. */
        int addDraft(int itsValue, int itsLength) {
            int added = count;
            int kept = 0;
            for (int at = 0; at < drafted; at++) {
                if (at == 0 || draft[at] != draft[at - 1]) {
                    nets[added][kept] = draft[at];
                    kept++;
                }
            }
            size[added] = kept;
            value[added] = itsValue;
            length[added] = itsLength;
            drafted = 0;
            count++;
            there++;
            return added;
        }

        boolean tellsRelations(int route) {
            return !withdrawn[route] && !runsRound(nets[route], size[route]);
        }

        static boolean runsRound(int[] path, int size) {
            int seen = 0;
            for (int at = 0; at < size; at++) {
                if (isIn(seen, path[at])) {
                    return true;
                }
                seen |= 1 << path[at];
            }
            return false;
        }

        int countAddressesFrom(int origins) {
            int found = 0;
            for (int address = 0; address < ADDRESSES; address++) {
                if (reaches(address, origins)) {
                    found++;
                }
            }
            return found;
        }

        private boolean reaches(int address, int origins) {
            boolean found = false;
            for (int route = 0; route < count && !found; route++) {
                found = !withdrawn[route]
                        && isIn(origins, nets[route][0])
                        && Blocks.liesIn(address, BITS, value[route], length[route]);
            }
            return found;
        }
    }

    /** The ties of nets that were told. */
    private static final class Ties {
        private final int[][] what = new int[NETS][NETS];

        int between(int one, int other) {
            return what[one][other];
        }

        void tell(int one, int other, int tie) {
            what[one][other] = tie;
            what[other][one] = turned(tie);
        }

        private static int turned(int tie) {
            if (tie == CUSTOMER) {
                return PROVIDER;
            }
            return tie == PROVIDER ? CUSTOMER : tie;
        }

        boolean areTied(int one, int other) {
            return what[one][other] != NOTHING;
        }

        boolean hasCustomer(int net, int before, int behind) {
            return what[before][net] == CUSTOMER || what[behind][net] == CUSTOMER;
        }

        boolean leaksAt(int before, int net, int behind) {
            return areTied(before, net) && areTied(behind, net) && !hasCustomer(net, before, behind);
        }
    }

    /** Judges paths by the good vouchers, which it is told ahead of that. */
    private static final class PathJudge {
        private final Ties ties;
        private final int[] vouchedFor = new int[NETS];
        private final int[] notDenied = new int[NETS];

        PathJudge(Ties ties) {
            this.ties = ties;
        }

        void forgetVouchers() {
            for (int net = 0; net < NETS; net++) {
                vouchedFor[net] = 0;
                notDenied[net] = ALL_NETS;
            }
        }

        void addVoucher(int net, int itsProviders) {
            vouchedFor[net] |= itsProviders;
            notDenied[net] = vouchedFor[net];
        }

        int judgeUp(int[] path, int size) {
            if (RouteBook.runsRound(path, size) || netsUp(path, size, notDenied) < size) {
                return INVALID;
            }
            return netsUp(path, size, vouchedFor) == size ? VALID : NOT_FOUND;
        }

        int judgeDown(int[] path, int size) {
            if (RouteBook.runsRound(path, size)) {
                return INVALID;
            }
            if (netsUp(path, size, notDenied) + netsBack(path, size, notDenied) < size) {
                return INVALID;
            }
            return netsUp(path, size, vouchedFor) + netsBack(path, size, vouchedFor) >= size ? VALID : NOT_FOUND;
        }

        /** Whether the net at a place behind the first one refuses what is ahead of it, blocks left aside. */
        boolean isRefusedAt(int[] path, int place) {
            boolean fromProvider = ties.between(path[place - 1], path[place]) == PROVIDER;
            return (fromProvider ? judgeDown(path, place) : judgeUp(path, place)) == INVALID;
        }

        /** How many nets are reached from the first one on by steps that the nets' sets have. */
        private static int netsUp(int[] path, int size, int[] steps) {
            int nets = 1;
            while (nets < size && isIn(steps[path[nets - 1]], path[nets])) {
                nets++;
            }
            return nets;
        }

        private static int netsBack(int[] path, int size, int[] steps) {
            int nets = 1;
            while (nets < size && isIn(steps[path[size - nets]], path[size - nets - 1])) {
                nets++;
            }
            return nets;
        }
    }

    /** Tries all allowed paths of 2 to 5 nets. */
    private static final class AllowedPaths {
        private final Ties ties;
        private final PathJudge pathJudge;
        private final int[] trail = new int[LONGEST_TRIED_PATH];

        AllowedPaths(Ties ties, PathJudge pathJudge) {
            this.ties = ties;
            this.pathJudge = pathJudge;
        }

        int countTo(int from, int to) {
            trail[0] = from;
            return countOnwards(1, 1 << from, to);
        }

        int countRefused() {
            int refused = 0;
            for (int from = 0; from < NETS; from++) {
                trail[0] = from;
                refused += countOnwards(1, 1 << from, NONE);
            }
            return refused;
        }

        /**
         * Counts the allowed paths that begin with the trail of so many nets and are longer: those
         * that end at a net, or, if that is NONE, those that their last net would refuse.
         */
        private int countOnwards(int size, int seen, int end) {
            if (size >= LONGEST_TRIED_PATH) {
                return 0;
            }
            int found = 0;
            for (int next = 0; next < NETS; next++) {
                if (!isIn(seen, next) && mayGoOn(size, next)) {
                    found += countOver(next, size, seen, end);
                }
            }
            return found;
        }

        /** Counts those of these paths that go on with a net. */
        private int countOver(int next, int size, int seen, int end) {
            trail[size] = next;
            boolean counts = end == NONE ? pathJudge.isRefusedAt(trail, size) : next == end;
            return (counts ? 1 : 0) + countOnwards(size + 1, seen | 1 << next, end);
        }

        private boolean mayGoOn(int size, int next) {
            int last = trail[size - 1];
            return ties.areTied(last, next) && (size == 1 || ties.hasCustomer(last, trail[size - 2], next));
        }
    }

    /** The relations that the routes show, found anew for each question. */
    private static final class Relations {
        private final RouteBook book;
        private int core = 0;
        private final int[] neighbours = new int[NETS];
        private final int[][] votes = new int[NETS][NETS];
        private final int[][] customers = new int[ROUNDS][NETS];

        Relations(RouteBook book) {
            this.book = book;
        }

        void infer() {
            findNeighbours();
            findCore();
            for (int round = 0; round < ROUNDS; round++) {
                vote(round);
                findCustomers(round);
            }
        }

        private void findNeighbours() {
            for (int net = 0; net < NETS; net++) {
                neighbours[net] = 0;
            }
            for (int route = 0; route < book.count; route++) {
                if (book.tellsRelations(route)) {
                    joinNeighbours(book.nets[route], book.size[route]);
                }
            }
        }

        private void joinNeighbours(int[] path, int size) {
            for (int at = 1; at < size; at++) {
                neighbours[path[at - 1]] |= 1 << path[at];
                neighbours[path[at]] |= 1 << path[at - 1];
            }
        }

        private void findCore() {
            core = 0;
            for (int degree = NETS - 1; degree > 0; degree--) {
                for (int net = 0; net < NETS; net++) {
                    if (Integer.bitCount(neighbours[net]) == degree && (core & ~neighbours[net]) == 0) {
                        core |= 1 << net;
                    }
                }
            }
        }

        private void vote(int round) {
            for (int one = 0; one < NETS; one++) {
                for (int other = 0; other < NETS; other++) {
                    votes[one][other] = 0;
                }
            }
            for (int route = 0; route < book.count; route++) {
                if (book.tellsRelations(route)) {
                    voteAlong(book.nets[route], book.size[route], round);
                }
            }
        }

        private void voteAlong(int[] path, int size, int round) {
            int top = topOf(path, size, round);
            for (int at = 1; at < size; at++) {
                int first = path[at - 1];
                int second = path[at];
                if (isIn(core, first) && isIn(core, second)) {
                    continue;
                }
                if (at <= top) {
                    votes[first][second]++;
                } else {
                    votes[second][first]++;
                }
            }
        }

        private int topOf(int[] path, int size, int round) {
            int top = 0;
            for (int at = 0; at < size; at++) {
                if (isIn(core, path[at])) {
                    return at;
                }
                if (rankOf(path[at], round) > rankOf(path[top], round)) {
                    top = at;
                }
            }
            return top;
        }

        private int rankOf(int net, int round) {
            return Integer.bitCount(round == 0 ? neighbours[net] : customers[round - 1][net]);
        }

        /** Nets that are no neighbours, or both of the core, have no votes, so they find no customer. */
        private void findCustomers(int round) {
            for (int net = 0; net < NETS; net++) {
                customers[round][net] = 0;
                for (int other = 0; other < NETS; other++) {
                    if (votes[other][net] > 2 * votes[net][other]) {
                        customers[round][net] |= 1 << other;
                    }
                }
            }
        }

        int between(int one, int other, int round) {
            if (!isIn(neighbours[one], other)) {
                return NOTHING;
            }
            if (isIn(customers[round][other], one)) {
                return CUSTOMER;
            }
            return isIn(customers[round][one], other) ? PROVIDER : PEER;
        }

        /** A chain of customers without a repeat has at most so many steps as there are nets. */
        int coneOf(int net) {
            int members = 1 << net;
            for (int step = 0; step < NETS; step++) {
                for (int member = 0; member < NETS; member++) {
                    if (isIn(members, member)) {
                        members |= customers[LAST_ROUND][member];
                    }
                }
            }
            return members;
        }

        int pathConeOf(int net) {
            int members = 1 << net;
            for (int route = 0; route < book.count; route++) {
                if (book.tellsRelations(route)) {
                    members |= customersAhead(book.nets[route], book.size[route], net);
                }
            }
            return members;
        }

        /** Goes along the path and keeps the chain of customers that ends where it is. */
        private int customersAhead(int[] path, int size, int net) {
            int chain = 0;
            for (int at = 0; at < size; at++) {
                if (at > 0 && !isIn(customers[LAST_ROUND][path[at]], path[at - 1])) {
                    chain = 0;
                }
                if (path[at] == net) {
                    return chain;
                }
                chain |= 1 << path[at];
            }
            return 0;
        }
    }
}
