/** What the document says of the undo, and promise 24. */
final class UndoEdges {
    private static final Edge.Call[] EDITS = {
        c -> c.addVan(5, 5), c -> c.setNumber(0, 60), c -> c.setNumber(1, 70), c -> c.setNumber(2, 9),
        c -> c.setVan(0, 7, 7), c -> c.setProbe(0, 2, 2, 99), c -> c.repair(0, 1), c -> c.loadPallet(0, 0, 1, 2, 3),
        c -> c.door(0, 0), c -> c.door(1, 1), c -> c.pass(3), c -> c.deliver(3), c -> c.detour(1, 77),
    };
    private static final String EACH = "The edits are the successful calls of addVan(), setNumber(), setVan(), setProbe(),"
        + " repair(), loadPallet(), door(), pass(), deliver(), detour() and runScript()";

    private UndoEdges() {
    }

    static void run() {
        edits();
        editsOfEach();
        noEdits();
        states();
        restores();
        undo();
    }

    private static ColdChain without(String text) {
        ColdChain chain = Edge.busy();
        chain.clearText();
        Look.type(chain, text);
        return chain;
    }

    /** So many edits, of which each sets the outside temperature to its number, from 1. */
    private static ColdChain edited(int edits) {
        ColdChain chain = new ColdChain();
        for (int k = 1; k <= edits; k++) {
            chain.setNumber(0, k);
        }
        return chain;
    }

    /** The first edits of these six. */
    private static ColdChain story(int edits) {
        Edge.Call[] six = {c -> c.addVan(0, 5), c -> c.door(0, 1), c -> c.loadPallet(0, 0, -300, 0, 9),
            c -> c.setProbe(0, 1, 2, 400), c -> c.pass(9), c -> c.deliver(0)};
        ColdChain chain = new ColdChain();
        for (int k = 0; k < edits; k++) {
            six[k].on(chain);
        }
        return chain;
    }

    private static void edits() {
        Edge edge = new Edge("Undo");
        for (int k = 0; k < EDITS.length; k++) {
            Edge.Call edit = EDITS[k];
            edge.test(EACH, "edit " + k + ", behind six others, is undone", () -> {
                ColdChain chain = Edge.busy();
                edit.on(chain);
                Checks.due("count(7)", chain.count(7), 6);
                Checks.due("undo()", chain.undo(), 5);
                Checks.isTrue("all is as before", Edge.state(Edge.busy()).equals(Edge.state(chain)));
            });
            edge.test(EACH, "edit " + k + " saves a state, where five are saved", () -> {
                ColdChain chain = Edge.busy();
                Checks.due("undo()", chain.undo(), 5);
                edit.on(chain);
                Checks.due("count(7)", chain.count(7), 6);
                Checks.due("undo()", chain.undo(), 5);
                ColdChain twin = Edge.busy();
                twin.undo();
                Checks.isTrue("all is as before", Edge.numbers(twin).equals(Edge.numbers(chain)));
            });
        }
        edge.test(EACH, "runScript() with commands and without", () -> {
            for (String text : new String[] {"w2;c0;r0.1;o1;", "d3;", " ", ""}) {
                ColdChain chain = without(text);
                Checks.due("undo()", chain.undo(), 5);
                chain.runScript();
                Checks.due("count(7)", chain.count(7), 6);
                Checks.due("undo()", chain.undo(), 5);
                ColdChain twin = without("");
                twin.undo();
                Checks.isTrue("all is as before '" + text + "'", Edge.numbers(twin).equals(Edge.numbers(chain)));
            }
        });
        edge.test(EACH, "those that answer a number below 0 are successful", () -> {
            ColdChain chain = Look.withVan(-300, 0);
            chain.setNumber(0, -200);
            Checks.due("setVan", chain.setVan(0, -1, 0), -300);
            Checks.due("setVan", chain.setVan(0, 5, 0), -1);
            Checks.due("setNumber", chain.setNumber(0, -1), -200);
            Checks.due("setNumber", chain.setNumber(0, 5), -1);
            Checks.due("count(7)", chain.count(7), 6);
            int[][] due = {{5, -1}, {5, -200}, {-1, -200}, {-300, -200}, {-300, 200}};
            for (int[] row : due) {
                chain.undo();
                Checks.due("van(0, 0)", chain.van(0, 0), row[0]);
                Checks.due("count(3)", chain.count(3), row[1]);
            }
        });
        edge.test(EACH, "those that change nothing save a state too", () -> {
            ColdChain chain = Edge.closedVan();
            Edge.Call[] edits = {c -> c.setNumber(0, 200), c -> c.setVan(0, 0, 5), c -> c.setProbe(0, 0, 0, 0),
                c -> c.repair(0, 0), ColdChain::runScript};
            for (int k = 0; k < edits.length; k++) {
                edits[k].on(chain);
                Checks.due("count(7)", chain.count(7), k + 2);
            }
        });
    }

    /** Three open vans with all nine probes found, and eleven pallets: 4 open minutes, 2 closed ones, 5 told ones. */
    private static ColdChain loaded() {
        ColdChain chain = PalletEdges.threeOpen();
        chain.setNumber(2, 1);
        for (int k = 0; k < 11; k++) {
            chain.loadPallet(k % 3, k / 3 % 3, -300, k, 10 * k);
        }
        for (int zone = 0; zone < 3; zone++) {
            for (int van = 0; van < 3; van++) {
                chain.setProbe(van, zone, 1, 200);
            }
            chain.pass(1);
            for (int van = 0; van < 3; van++) {
                chain.setProbe(van, zone, 0, 0);
            }
        }
        Checks.due("found probes", chain.count(8), 9);
        allProbes(chain, 2, -300);
        chain.pass(1);
        allProbes(chain, 0, 0);
        allDoors(chain, 0);
        chain.pass(2);
        allDoors(chain, 1);
        Checks.due("open minutes", chain.pallet(10, 6), 4);
        Checks.due("closed minutes", chain.pallet(10, 7), 2);
        Checks.due("told minutes", chain.pallet(10, 8), 5);
        return chain;
    }

    private static void allProbes(ColdChain chain, int mode, int value) {
        for (int number = 0; number < 9; number++) {
            chain.setProbe(number / 3, number % 3, mode, value);
        }
    }

    private static void allDoors(ColdChain chain, int open) {
        for (int van = 0; van < 3; van++) {
            chain.door(van, open);
        }
    }

    /** The edit changes what can be seen, and an undo brings all of it back. */
    private static void isUndone(String name, Edge.Maker maker, Edge.Call edit) {
        String due = Edge.state(maker.make());
        ColdChain chain = maker.make();
        Checks.isTrue(name + " is an edit", edit.on(chain) > Look.INVALID);
        ColdChain twin = maker.make();
        edit.on(twin);
        Checks.isTrue(name + " changes something", !due.equals(Edge.state(twin)));
        Checks.due(name + ": undo()", chain.undo(), 5);
        Checks.isTrue(name + " is undone", due.equals(Edge.state(chain)));
        ColdChain again = maker.make();
        edit.on(again);
        again.undo();
        Checks.isTrue(name + " is not in what would be", Edge.ahead(maker.make()).equals(Edge.ahead(again)));
    }

    private static void editsOfEach() {
        Edge edge = new Edge("Undo");
        String words = "undo() restores the most recently saved state and discards it";
        for (int number = 0; number < 3; number++) {
            int van = number;
            edge.test(words, "of the van " + van, () -> {
                isUndone("setVan", UndoEdges::loaded, c -> c.setVan(van, -50, 7));
                isUndone("door", UndoEdges::loaded, c -> c.door(van, 0));
            });
            edge.test(words, "of each zone of the van " + van, () -> {
                for (int k = 0; k < 3; k++) {
                    int zone = k;
                    isUndone("setProbe " + zone, UndoEdges::loaded, c -> c.setProbe(van, zone, 2, 33));
                    isUndone("repair " + zone, UndoEdges::loaded, c -> c.repair(van, zone));
                    isUndone("loadPallet " + zone, UndoEdges::loaded, c -> c.loadPallet(van, zone, 1, 2, 3));
                }
            });
        }
        edge.test(words, "of each pallet", () -> {
            for (int k = 0; k < 11; k++) {
                int pallet = k;
                isUndone("deliver " + pallet, UndoEdges::loaded, c -> c.deliver(pallet));
            }
        });
        edge.test(words, "of all pallets and of all zones together", () -> {
            isUndone("detour", () -> {
                ColdChain chain = PalletEdges.twelve();
                chain.pass(1);
                for (int k = 0; k < 12; k++) {
                    chain.deliver(k);
                }
                return chain;
            }, c -> c.detour(4095, 9999));
            isUndone("pass", UndoEdges::loaded, c -> c.pass(5));
            isUndone("runScript", () -> {
                ColdChain chain = loaded();
                Look.type(chain, "d0;w1;d5;d10;r2.2;c0;c1;c2;w9;");
                return chain;
            }, ColdChain::runScript);
        });
    }

    private static void noEdits() {
        Edge edge = new Edge("Undo");
        Edge.Call[] looks = {c -> c.appendCharacter('x'), ColdChain::clearText, c -> c.count(0), c -> c.van(0, 3),
            c -> c.zone(0, 0, 0), c -> c.pallet(3, 0), c -> c.claims(0), c -> c.log(0, 0, 1, 0),
            c -> c.warm(0, 0, 0, 0, 9, 0), c -> c.minutesLeft(3), c -> c.longestOpen(0), c -> c.longestOpen(1)};
        edge.test(EACH, "no other call is one", () -> {
            for (int k = 0; k < looks.length; k++) {
                ColdChain chain = Edge.busy();
                chain.undo();
                looks[k].on(chain);
                Checks.due("count(7) after look " + k, chain.count(7), 5);
                Checks.due("undo() after look " + k, chain.undo(), 4);
            }
        });
        edge.test(EACH, "undo() is none, and cannot be undone", () -> {
            ColdChain chain = edited(3);
            chain.undo();
            Checks.due("count(7)", chain.count(7), 2);
            chain.undo();
            Checks.due("count(3)", chain.count(3), 1);
        });
        edge.test(EACH, "calls that are refused are none", () -> {
            ColdChain chain = edited(2);
            Edge.Call[] refused = {c -> c.addVan(101, 0), c -> c.setNumber(0, 451), c -> c.setVan(0, 0, 0),
                c -> c.setProbe(0, 0, 0, 0), c -> c.repair(0, 0), c -> c.loadPallet(0, 0, 0, 0, 0), c -> c.door(0, 1),
                c -> c.pass(0), c -> c.deliver(0), c -> c.detour(1, 0)};
            for (int k = 0; k < refused.length; k++) {
                Checks.due("call " + k, refused[k].on(chain), Look.INVALID);
                Checks.due("count(7) after call " + k, chain.count(7), 2);
            }
            Checks.due("a text with an error", Look.script(chain, "q"), -200000);
            Checks.due("a command with an error", Look.script(chain, "w1;o0;"), -300001);
            Checks.due("count(7)", chain.count(7), 2);
            Checks.due("undo()", chain.undo(), 1);
            Checks.due("count(3)", chain.count(3), 1);
        });
    }

    private static void states() {
        Edge edge = new Edge("Undo");
        String text = "Each of them saves the state that preceded it, which consists of everything but the text";
        edge.test(text, "the text stays as it is, longer, empty, full", () -> {
            ColdChain chain = edited(3);
            Look.type(chain, "w1;");
            chain.undo();
            Checks.due("as it is", chain.count(6), 3);
            chain.clearText();
            chain.undo();
            Checks.due("empty", chain.count(6), 0);
            Look.type(chain, "w1;".repeat(27));
            chain.undo();
            Checks.due("full", chain.clearText(), 80);
        });
        edge.test(text, "the text that a script was is not brought back", () -> {
            ColdChain chain = without("w1;");
            chain.runScript();
            chain.undo();
            Checks.due("count(6)", chain.count(6), 0);
            Checks.due("count(2)", chain.count(2), 4);
        });
        edge.test(text, "the minutes of a pallet, open, closed and told ones", () -> {
            ColdChain chain = Look.withOpenVan(11, 0);
            chain.setNumber(0, 11);
            chain.loadPallet(0, 0, 10, 9, 0);
            chain.pass(2);
            chain.door(0, 0);
            chain.pass(3);
            int[][] due = {{2, 3, 5}, {2, 0, 2}, {2, 0, 2}, {0, 0, 0}};
            for (int[] row : due) {
                for (int k = 0; k < 3; k++) {
                    Checks.due("pallet(0, " + (6 + k) + ")", chain.pallet(0, 6 + k), row[k]);
                }
                chain.undo();
            }
            Checks.due("count(1)", chain.count(1), 0);
        });
        edge.test(text, "the log", () -> {
            ColdChain chain = Edge.at(3);
            String due = Edge.logged(chain);
            chain.pass(5);
            chain.undo();
            Checks.isTrue("as before", due.equals(Edge.logged(chain)));
            Checks.due("log(0, 0, 4, 0)", chain.log(0, 0, 4, 0), Look.NONE);
            chain.door(0, 0);
            chain.pass(1);
            Checks.due("written again", chain.log(0, 0, 4, 0), chain.zone(0, 0, 0));
            Checks.isTrue("not as it was", Edge.at(4).log(0, 0, 4, 0) != chain.log(0, 0, 4, 0));
        });
        edge.test("At most 6 states are saved", "5, 6, 7, 100", () -> {
            Checks.due("none", new ColdChain().count(7), 0);
            Checks.due("5 edits", edited(5).count(7), 5);
            Checks.due("6 edits", edited(6).count(7), 6);
            Checks.due("7 edits", edited(7).count(7), 6);
            Checks.due("100 edits", edited(100).count(7), 6);
        });
        edge.test("when a seventh is saved, the oldest one is discarded", "after 6 to 30 edits", () -> {
            for (int edits = 6; edits <= 30; edits++) {
                ColdChain chain = edited(edits);
                for (int left = 5; left >= 0; left--) {
                    Checks.due("undo()", chain.undo(), left);
                    int state = edits - 6 + left;
                    Checks.due("count(3)", chain.count(3), state == 0 ? 200 : state);
                }
                Checks.due("a seventh undo()", chain.undo(), Look.ILLEGAL);
            }
        });
        edge.test("when a seventh is saved, the oldest one is discarded", "after undos and edits in turn", () -> {
            ColdChain chain = edited(8);
            chain.undo();
            chain.undo();
            Checks.due("count(7)", chain.count(7), 4);
            for (int k = 11; k <= 13; k++) {
                chain.setNumber(0, k);
            }
            Checks.due("count(7)", chain.count(7), 6);
            int[] due = {12, 11, 6, 5, 4, 3};
            for (int k = 0; k < due.length; k++) {
                Checks.due("undo()", chain.undo(), 5 - k);
                Checks.due("count(3)", chain.count(3), due[k]);
            }
            Checks.due("a seventh undo()", chain.undo(), Look.ILLEGAL);
        });
    }

    private static void restores() {
        Edge edge = new Edge("Undo");
        String words = "undo() restores the most recently saved state and discards it";
        edge.test(words, "one after the other, each once", () -> {
            ColdChain chain = edited(3);
            int[] due = {2, 1, 200};
            for (int k = 0; k < due.length; k++) {
                Checks.due("undo()", chain.undo(), 2 - k);
                Checks.due("count(3)", chain.count(3), due[k]);
            }
        });
        edge.test(words, "a van and a pallet that are gone are new when they come again", () -> {
            ColdChain chain = Edge.openVan();
            chain.setNumber(2, 1);
            chain.setProbe(0, 1, 2, 400);
            chain.loadPallet(0, 0, -300, 9, 9);
            chain.pass(3);
            for (int k = 0; k < 6; k++) {
                chain.undo();
            }
            Checks.due("van(0, 0)", chain.van(0, 0), Look.INVALID);
            Checks.due("pallet(0, 0)", chain.pallet(0, 0), Look.INVALID);
            Checks.due("count(8)", chain.count(8), 0);
            chain.addVan(50, 5);
            Checks.due("door", chain.van(0, 2), 0);
            Checks.isTrue("zones", Look.zones(chain, 0, 1).equals("50 50 50"));
            Checks.isTrue("found", Look.zones(chain, 0, 4).equals("0 0 0"));
            chain.door(0, 1);
            chain.loadPallet(0, 1, 7, 7, 7);
            int[] due = {0, 1, 7, 7, 7, 0, 0, 0, 0, 0, 0};
            for (int what = 0; what < due.length; what++) {
                Checks.due("pallet(0, " + what + ")", chain.pallet(0, what), due[what]);
            }
        });
        edge.test(words, "the time, so that there is room for it again", () -> {
            ColdChain chain = Edge.at(600);
            Checks.due("pass(1)", chain.pass(1), Look.FULL);
            chain.undo();
            Checks.due("pass(300)", chain.pass(300), 0);
            Checks.due("count(2)", chain.count(2), 600);
        });
    }

    private static void undo() {
        Edge edge = new Edge("Promise 24");
        edge.test("Restores the most recently saved state and discards it", "of each of six edits", () -> {
            for (int left = 0; left <= 5; left++) {
                ColdChain chain = story(6);
                for (int undos = 6; undos > left; undos--) {
                    chain.undo();
                }
                Checks.isTrue(left + " are left", Edge.numbers(story(left)).equals(Edge.numbers(chain)));
            }
        });
        edge.test("Restores the most recently saved state and discards it", "its own, with another object beside it", () -> {
            ColdChain one = new ColdChain();
            ColdChain other = new ColdChain();
            for (int k = 1; k <= 9; k++) {
                one.setNumber(0, k);
                other.setNumber(0, 100 + k);
                Look.type(k % 2 == 0 ? one : other, "w1");
            }
            for (int k = 8; k >= 3; k--) {
                Checks.due("undo() of the other", other.undo(), k - 3);
                Checks.due("count(3) of the other", other.count(3), 100 + k);
                Checks.due("undo()", one.undo(), k - 3);
                Checks.due("count(3)", one.count(3), k);
            }
            Checks.due("the text", one.clearText(), 8);
            Checks.due("the text of the other", other.clearText(), 10);
        });
        edge.test("Returns the number of states that are still saved", "5 to 0", () -> {
            ColdChain chain = edited(20);
            for (int left = 5; left >= 0; left--) {
                Checks.due("undo()", chain.undo(), left);
                Checks.due("count(7)", chain.count(7), left);
            }
        });
        edge.refused("ILLEGAL_STATE if there is none", "of a new object, with a text", Look.ILLEGAL, () -> {
            ColdChain chain = new ColdChain();
            Look.type(chain, "w1;");
            return chain;
        }, ColdChain::undo);
        edge.refused("ILLEGAL_STATE if there is none", "after as many as there were", Look.ILLEGAL, () -> {
            ColdChain chain = edited(9);
            for (int k = 0; k < 6; k++) {
                chain.undo();
            }
            return chain;
        }, ColdChain::undo);
    }
}
