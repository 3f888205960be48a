/** Promises 1 to 6 and 17: a new object, holder, belong, roll, publish, pass, today. */
public final class HoldersTest {
    private static final Due due = new Due("HoldersTest");

    public static void main(String[] args) {
        newObject();
        holder();
        holderComesWithAFreshList();
        belong();
        roll();
        publish();
        publishForAShorterTime();
        listsOfOthers();
        pass();
        due.end();
    }

    private static void newObject() {
        Pathwarden x = new Pathwarden();
        due.is("1: today", 0, x::today);
        due.is("1: objects", 0, x::objects);
        due.is("1: routes", 0, x::routes);
        due.is("1: clique", 0, x::clique);
        due.is("1: falseAlarms", 0, x::falseAlarms);
        due.is("1: the holder 0 has all", 1, () -> Due.bit(x.has(0, 0, 0)));
        due.fails("1: no holder 1", Due.INDEX, () -> Due.bit(x.has(1, 0, 0)));
        due.fails("1: no object 0", Due.INDEX, () -> x.judged(0));
        due.fails("1: no route 0", Due.INDEX, () -> x.leak(0));
        due.fails("1: an empty draft", Due.STATE, () -> x.hear(0, 0));
        for (int net = 0; net < 10; net++) {
            int one = net;
            due.is("1: cone", 1 << net, () -> x.cone(one));
            for (int other = 0; other < 10; other++) {
                int two = other;
                due.is("1: no way to", 0, () -> x.allowed(one, two));
                if (one != two) {
                    due.is("1: no tie", Pathwarden.NOTHING, () -> x.tie(one, two, Pathwarden.NOTHING));
                }
            }
            due.is("1: belongs to the holder 0", 0, () -> x.belong(one, 0));
        }
        due.is("1: the key is 0", 1, () -> x.roll(0));
        due.is("1: the list is empty", 0, () -> x.publish(0, 0));
    }

    private static void holder() {
        Pathwarden x = new Pathwarden();
        due.fails("2: no parent 1", Due.INDEX, () -> x.holder(1));
        due.fails("2: no parent -1", Due.INDEX, () -> x.holder(-1));
        for (int h = 1; h < 8; h++) {
            int want = h;
            due.is("2: holder", want, () -> x.holder(want - 1));
        }
        due.fails("2: there are 8", Due.STATE, () -> x.holder(0));
        due.fails("2: no parent 8, ahead of there are 8", Due.INDEX, () -> x.holder(8));
        due.fails("2: no parent, least number", Due.INDEX, () -> x.holder(Integer.MIN_VALUE));
        due.fails("2: no parent, greatest number", Due.INDEX, () -> x.holder(Integer.MAX_VALUE));
    }

    private static void holderComesWithAFreshList() {
        Pathwarden x = new Pathwarden();
        x.pass(20);
        x.publish(0, 100);
        x.holder(0);
        x.grant(0, 1, 0, 0, 1000);
        x.origin(1, 0, 0, 0, 8, 1000);
        x.pass(30);
        due.is("2: fresh up to the day 50", Pathwarden.GOOD, () -> x.judged(1));
        x.pass(1);
        due.is("2: not fresh on the day 51", Pathwarden.STALE, () -> x.judged(1));
        due.is("2: the parent's list is fresh", Pathwarden.GOOD, () -> x.judged(0));
    }

    private static void belong() {
        Pathwarden x = new Pathwarden();
        x.holder(0);
        x.grant(0, 1, 0, 8, 10);
        x.vouch(1, 3, 0, 10);
        due.is("3: the net is of another", Pathwarden.OUTSIDE, () -> x.judged(1));
        due.is("3: it was of 0", 0, () -> x.belong(3, 1));
        due.is("3: the net is of the issuer", Pathwarden.GOOD, () -> x.judged(1));
        due.is("3: it was of 1", 1, () -> x.belong(3, 0));
        due.is("3: the others stay", 0, () -> x.belong(4, 1));
        due.is("3: net 9", 0, () -> x.belong(9, 1));
        due.fails("3: net 10", Due.INDEX, () -> x.belong(10, 0));
        due.fails("3: net -1", Due.INDEX, () -> x.belong(-1, 0));
        due.fails("3: holder 2", Due.INDEX, () -> x.belong(0, 2));
        due.fails("3: holder -1", Due.INDEX, () -> x.belong(0, -1));
    }

    private static void roll() {
        Pathwarden x = new Pathwarden();
        x.holder(0);
        x.origin(0, 0, 0, 0, 0, 10);
        due.fails("4: no holder 2", Due.INDEX, () -> x.roll(2));
        due.fails("4: no holder -1", Due.INDEX, () -> x.roll(-1));
        due.is("4: key of 1", 1, () -> x.roll(1));
        due.is("4: another's key is nothing to it", Pathwarden.GOOD, () -> x.judged(0));
        for (int key = 1; key <= 100; key++) {
            int want = key;
            due.is("4: key", want, () -> x.roll(0));
        }
        due.is("4: signed by an old key", Pathwarden.FORGED, () -> x.judged(0));
        due.fails("4: it is 100", Due.STATE, () -> x.roll(0));
        due.is("4: the key of 1 goes on", 2, () -> x.roll(1));
    }

    private static void publish() {
        Pathwarden x = new Pathwarden();
        x.origin(0, 0, 0, 0, 0, 1000);
        x.origin(0, 1, 0, 0, 0, 1000);
        x.revoke(1);
        due.is("5: not on the list yet", Pathwarden.GOOD, () -> x.judged(1));
        due.fails("5: days 101", Due.ARGUMENT, () -> x.publish(0, 101));
        due.fails("5: days -1", Due.ARGUMENT, () -> x.publish(0, -1));
        due.fails("5: holder 1", Due.INDEX, () -> x.publish(1, 101));
        due.fails("5: holder -1", Due.INDEX, () -> x.publish(-1, 0));
        due.is("5: what throws lists nothing", Pathwarden.GOOD, () -> x.judged(1));
        due.is("5: one on the list", 1, () -> x.publish(0, 100));
        due.is("5: on the list", Pathwarden.REVOKED, () -> x.judged(1));
        x.revoke(0);
        due.is("5: two on the list", 2, () -> x.publish(0, 0));
        due.is("5: two still", 2, () -> x.publish(0, 100));
        x.origin(0, 2, 0, 0, 0, 1000);
        x.pass(100);
        due.is("5: fresh on the day 100", Pathwarden.GOOD, () -> x.judged(2));
        x.pass(1);
        due.is("5: not on the day 101", Pathwarden.STALE, () -> x.judged(2));
        due.is("5: published anew", 2, () -> x.publish(0, 0));
        due.is("5: fresh today", Pathwarden.GOOD, () -> x.judged(2));
        x.pass(1);
        due.is("5: and not tomorrow", Pathwarden.STALE, () -> x.judged(2));
    }

    private static void publishForAShorterTime() {
        Pathwarden x = new Pathwarden();
        x.origin(0, 0, 0, 0, 0, 1000);
        x.publish(0, 3);
        x.pass(4);
        due.is("5: the first 30 days are over then", Pathwarden.STALE, () -> x.judged(0));
    }

    private static void listsOfOthers() {
        Pathwarden x = new Pathwarden();
        x.holder(0);
        x.grant(0, 1, 0, 0, 1000);
        x.origin(1, 0, 0, 0, 0, 1000);
        x.revoke(0);
        x.revoke(1);
        due.is("5: its own object alone", 1, () -> x.publish(1, 50));
        due.is("5: that is listed", Pathwarden.REVOKED, () -> x.judged(1));
        due.is("5: the other's is not", Pathwarden.GOOD, () -> x.judged(0));
        x.pass(31);
        due.is("5: the other's list grew stale", Pathwarden.STALE, () -> x.judged(0));
    }

    private static void pass() {
        Pathwarden x = new Pathwarden();
        due.fails("6: 0 days", Due.ARGUMENT, () -> x.pass(0));
        due.fails("6: 101 days", Due.ARGUMENT, () -> x.pass(101));
        due.fails("6: -1 days", Due.ARGUMENT, () -> x.pass(-1));
        due.fails("6: very many days", Due.ARGUMENT, () -> x.pass(Integer.MAX_VALUE));
        due.is("6: a day", 1, () -> x.pass(1));
        due.is("17: today", 1, x::today);
        for (int day = 101; day < 10000; day += 100) {
            int want = day;
            due.is("6: 100 days", want, () -> x.pass(100));
        }
        due.fails("6: above 10000", Due.STATE, () -> x.pass(100));
        due.fails("6: out of range, ahead of that", Due.ARGUMENT, () -> x.pass(101));
        due.is("17: today is as it was", 9901, x::today);
        due.is("6: 10000", 10000, () -> x.pass(99));
        due.fails("6: 10001", Due.STATE, () -> x.pass(1));
        due.is("17: the last day", 10000, x::today);
    }
}
