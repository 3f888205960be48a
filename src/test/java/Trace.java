/**
 * All that can be found out about the object behind a run of calls: what it answers when it is
 * asked, what changes of it answer, and how it ages. Two runs with the same trace left the same
 * object behind. Each part plays the run anew, since no object takes more than 512 calls.
 */
final class Trace {
    /** Behind so many days no list is fresh that was published before. */
    private static final int OLDEST = 101;
    private static final String[] BLOCKS = {"0 0", "0 1", "128 1", "255 8"};

    private final Run run;
    private final StringBuilder text = new StringBuilder();
    private Caller caller;
    private int objects;
    private int routes;

    private Trace(Run run) {
        this.run = run;
    }

    static String of(Run run) {
        Trace trace = new Trace(run);
        trace.askOfObjectsAndHolders();
        trace.askOfRoutes();
        trace.askOfNets();
        trace.hearTheDraft();
        trace.changeHolders();
        trace.changeObjects();
        trace.changeNets();
        trace.growOld();
        return trace.text.toString();
    }

    private void begin() {
        caller = run.played();
        objects = Integer.parseInt(note("objects"));
        routes = Integer.parseInt(note("routes"));
    }

    private String note(String call) {
        String answer = caller.answer(call);
        text.append(call).append(" = ").append(answer).append('\n');
        return answer;
    }

    private void askOfObjectsAndHolders() {
        begin();
        note("today");
        judgeAll();
        for (String block : BLOCKS) {
            for (int holder = 0; holder < 8; holder++) {
                note("has " + holder + " " + block);
                note("hasByChains " + holder + " " + block);
            }
            for (int net = 0; net < 10; net++) {
                note("state " + net + " " + block);
            }
        }
    }

    private void judgeAll() {
        for (int object = 0; object < objects; object++) {
            note("judged " + object);
        }
    }

    private void askOfRoutes() {
        begin();
        for (int route = 0; route < routes; route++) {
            note("path " + route + " 1");
            note("path " + route + " 0");
            note("leak " + route);
            note("stopped " + route + " 1023");
            note("stopped " + route + " 682");
        }
        for (int net = 0; net < 10; net++) {
            note("cone " + net);
            note("coneByPaths " + net);
            note("addresses " + net);
        }
        note("clique");
        note("falseAlarms");
    }

    private void askOfNets() {
        begin();
        for (int one = 0; one < 10; one++) {
            for (int other = 0; other < 10; other++) {
                note("allowed " + one + " " + other);
                note("inferred " + one + " " + other + " " + (one + other) % 3);
            }
        }
    }

    /** The draft shows in the relations of the route that it becomes. */
    private void hearTheDraft() {
        begin();
        note("hear 0 0");
        note("path " + routes + " 1");
        note("clique");
        for (int one = 0; one < 10; one++) {
            note("addresses " + one);
            for (int other = 0; other < one; other++) {
                note("inferred " + one + " " + other + " 0");
            }
        }
    }

    private void changeHolders() {
        begin();
        for (int holder = 0; holder < 8; holder++) {
            note("roll " + holder);
            note("publish " + holder + " 0");
            note("holder 0");
        }
        for (int net = 0; net < 10; net++) {
            note("belong " + net + " 0");
        }
        judgeAll();
        note("pass 1");
    }

    private void changeObjects() {
        begin();
        for (int object = 0; object < objects; object++) {
            note("revoke " + object);
            note("alter " + object + " 0");
            note("sign " + object);
        }
        for (int holder = 1; holder < 8; holder++) {
            note("grant " + (holder - 1) + " " + holder + " 0 0 0");
            note("grant 0 " + holder + " 0 0 0");
        }
        objects = Integer.parseInt(note("objects"));
        judgeAll();
    }

    private void changeNets() {
        begin();
        for (int n = 0; n < 7; n++) {
            note("hop 9");
        }
        for (int one = 0; one < 10; one++) {
            for (int other = 0; other < one; other++) {
                note("tie " + one + " " + other + " 0");
            }
        }
        for (int route = 0; route < routes; route++) {
            note("withdraw " + route);
        }
    }

    /** A new origin of each holder shows how long its list is fresh. */
    private void growOld() {
        for (int days = 1; days <= OLDEST; days++) {
            begin();
            for (int holder = 0; holder < 8; holder++) {
                note("origin " + holder + " 0 0 0 0 1000");
            }
            objects = Integer.parseInt(note("objects"));
            note("pass " + Math.min(days, 100));
            if (days > 100) {
                note("pass " + (days - 100));
            }
            judgeAll();
        }
    }
}
