import java.util.ArrayList;
import java.util.List;

/** Promise 24. */
final class UndoTests {
    private UndoTests() {
    }

    static void run() {
        Checks.test("24: undo of each edit", UndoTests::eachEdit);
        Checks.test("24: six states are saved", UndoTests::sixStates);
        Checks.test("24: refused calls save nothing", UndoTests::refusedOnes);
        Checks.test("24: the text is no part of it", UndoTests::textStays);
        Checks.test("24: the log after an undo", UndoTests::logAfterUndo);
        Checks.test("24: a van that is added again", UndoTests::vanAgain);
        Checks.test("24: undo and edits in turn", UndoTests::inTurn);
    }

    /** Each edit is done, undone and done again, behind all the ones ahead of it. */
    private static ColdChain story(Edge.Call[] edits, int[] due, int number) {
        ColdChain chain = new ColdChain();
        for (int k = 0; k < number; k++) {
            Checks.due("edit " + k, edits[k].on(chain), due[k]);
            Checks.due("count(7) after edit " + k, chain.count(7), Math.min(6, k + 1));
            Checks.due("undo() of edit " + k, chain.undo(), Math.min(5, k));
            Checks.due("edit " + k + " again", edits[k].on(chain), due[k]);
        }
        return chain;
    }

    private static void eachEdit() {
        Edge.Call[] edits = {c -> c.addVan(0, 5), c -> c.setNumber(0, 20), c -> c.setNumber(1, 40),
            c -> c.setNumber(2, 2), c -> c.setVan(0, -5, 6), c -> c.setProbe(0, 1, 2, 300), c -> c.door(0, 1),
            c -> c.loadPallet(0, 1, -5, 2, 100), c -> c.pass(9), c -> c.door(0, 0), c -> c.pass(2),
            c -> c.door(0, 1), c -> c.repair(0, 1), c -> c.deliver(0), c -> c.detour(1, 77),
            c -> Look.script(c, "c0;w5;"), c -> c.repair(0, 1)};
        int[] due = {0, 200, 30, 3, 0, 0, 0, 0, 1, 1, 0, 1, 1, 2, 77, 2, 0};
        for (int k = 0; k < edits.length; k++) {
            ColdChain chain = story(edits, due, k);
            edits[k].on(chain);
            chain.undo();
            Checks.isTrue("edit " + k + " is undone", Edge.state(story(edits, due, k)).equals(Edge.state(chain)));
            Checks.isTrue("its log too", Edge.logged(story(edits, due, k)).equals(Edge.logged(chain)));
        }
        // In the eleventh, zone 1 comes from 4: -2, which is above the limit, and -5, which is not.
        Checks.due("closed warm minutes", story(edits, due, 11).pallet(0, 7), 1);
    }

    private static void sixStates() {
        ColdChain chain = new ColdChain();
        for (int k = 1; k <= 9; k++) {
            chain.setNumber(0, k);
            Checks.due("count(7)", chain.count(7), Math.min(k, 6));
        }
        for (int k = 8; k >= 3; k--) {
            Checks.due("undo()", chain.undo(), k - 3);
            Checks.due("count(3)", chain.count(3), k);
            Checks.due("count(7)", chain.count(7), k - 3);
        }
        Checks.due("undo() without states", chain.undo(), Look.ILLEGAL);
        Checks.due("count(3)", chain.count(3), 3);
    }

    private static void refusedOnes() {
        ColdChain chain = Look.withVan(0, 5);
        chain.setNumber(0, 7);
        chain.door(0, 0);
        chain.pass(0);
        chain.deliver(0);
        chain.setNumber(0, 451);
        chain.appendCharacter('w');
        chain.runScript();
        chain.clearText();
        Checks.due("count(7)", chain.count(7), 2);
        Checks.due("undo()", chain.undo(), 1);
        Checks.due("count(3)", chain.count(3), 200);
    }

    private static void textStays() {
        ColdChain chain = Look.withVan(0, 5);
        Look.type(chain, "w3;");
        chain.pass(1);
        Look.type(chain, "w4;");
        Checks.due("undo()", chain.undo(), 1);
        Checks.due("count(6)", chain.count(6), 6);
        Checks.due("runScript()", chain.runScript(), 2);
        Checks.due("count(2)", chain.count(2), 7);
        Checks.due("undo()", chain.undo(), 1);
        Checks.due("count(6)", chain.count(6), 0);
        Checks.due("count(2)", chain.count(2), 0);
    }

    private static void logAfterUndo() {
        ColdChain chain = Look.withOpenVan(0, 5);
        chain.pass(1);
        chain.pass(2);
        Checks.due("undo()", chain.undo(), 3);
        Checks.due("log(0, 2, 1, 0)", chain.log(0, 2, 1, 0), 23);
        Checks.due("log(0, 2, 2, 0)", chain.log(0, 2, 2, 0), Look.NONE);
        Checks.due("warm", chain.warm(0, 2, -300, 0, 600, 0), 1);
        chain.door(0, 0);
        chain.pass(1);
        // 1 8 18; from 2 to 1 moves 1
        Checks.due("log(0, 2, 2, 0)", chain.log(0, 2, 2, 0), 17);
        Checks.due("undo()", chain.undo(), 4);
        Checks.due("undo()", chain.undo(), 3);
        chain.pass(1);
        Checks.due("log(0, 2, 2, 0)", chain.log(0, 2, 2, 0), 42);
    }

    private static void vanAgain() {
        ColdChain chain = new ColdChain();
        chain.pass(3);
        chain.addVan(10, 5);
        chain.door(0, 1);
        chain.loadPallet(0, 0, 0, 0, 7);
        chain.setProbe(0, 0, 2, 300);
        chain.pass(9);
        for (int k = 0; k < 5; k++) {
            chain.undo();
        }
        Checks.due("count(0)", chain.count(0), 0);
        Checks.due("count(1)", chain.count(1), 0);
        chain.pass(2);
        Checks.due("addVan(-30, 2)", chain.addVan(-30, 2), 0);
        Checks.isTrue("zones", Look.zones(chain, 0, 0).equals("-30 -30 -30"));
        Checks.isTrue("probes", Look.zones(chain, 0, 1).equals("-30 -30 -30"));
        Checks.due("van(0, 2)", chain.van(0, 2), 0);
        chain.pass(1);
        Checks.due("log(0, 0, 5, 0)", chain.log(0, 0, 5, 0), Look.NONE);
        Checks.due("log(0, 0, 6, 0)", chain.log(0, 0, 6, 0), -30);
        chain.door(0, 1);
        Checks.due("loadPallet", chain.loadPallet(0, 1, 1, 1, 1), 0);
        Checks.due("pallet(0, 4)", chain.pallet(0, 4), 1);
        Checks.due("pallet(0, 6)", chain.pallet(0, 6), 0);
    }

    private static String shown(ColdChain chain) {
        int time = chain.count(2);
        return time + ": " + Look.zones(chain, 0, 0) + " " + chain.log(0, 2, time, 0) + " " + chain.log(0, 2, time + 1, 0);
    }

    private static void inTurn() {
        ColdChain chain = Look.withOpenVan(0, 5);
        List<String> states = new ArrayList<>();
        for (int round = 0; round < 10; round++) {
            for (int k = 0; k < 4; k++) {
                states.add(shown(chain));
                chain.pass(1 + k);
            }
            for (int k = 0; k < 3; k++) {
                chain.undo();
                String due = states.remove(states.size() - 1);
                Checks.isTrue("round " + round, due.equals(shown(chain)));
            }
        }
    }
}
