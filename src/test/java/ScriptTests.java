/** Promises 12 to 14. */
final class ScriptTests {
    private ScriptTests() {
    }

    static void run() {
        Checks.test("12: appendCharacter", ScriptTests::appends);
        Checks.test("12: appendCharacter refuses", ScriptTests::refusesCharacters);
        Checks.test("13: clearText", ScriptTests::clears);
        Checks.test("14: runScript does the commands", ScriptTests::runs);
        Checks.test("14: spaces", ScriptTests::spaces);
        Checks.test("14: an empty text", ScriptTests::empty);
        Checks.test("14: error positions", ScriptTests::errorPositions);
        Checks.test("14: every character that is not allowed", ScriptTests::everyCharacter);
        Checks.test("14: commands that fail", ScriptTests::failingCommands);
        Checks.test("14: the text is kept with an error", ScriptTests::keepsText);
        Checks.test("14: one edit", ScriptTests::oneEdit);
        Checks.test("14: the longest text", ScriptTests::longest);
        Checks.test("14: a failed script leaves nothing in the log", ScriptTests::noTraces);
    }

    private static void appends() {
        ColdChain chain = new ColdChain();
        for (int k = 0; k < 80; k++) {
            Checks.due("append", chain.appendCharacter(k % 2 == 0 ? 0 : 255), k + 1);
            Checks.due("count(6)", chain.count(6), k + 1);
        }
        Checks.due("count(7)", chain.count(7), 0);
    }

    private static void refusesCharacters() {
        int[] wrong = {-1, 256, Look.LOW, Look.HIGH};
        for (int character : wrong) {
            Edge.refuse("append", Look.INVALID, ColdChain::new, c -> c.appendCharacter(character));
        }
        Edge.Maker full = () -> typed(new ColdChain(), "x".repeat(80));
        Edge.refuse("an 81st", Look.FULL, full, c -> c.appendCharacter('x'));
        Edge.refuse("a wrong 81st", Look.INVALID, full, c -> c.appendCharacter(256));
    }

    private static void clears() {
        ColdChain chain = new ColdChain();
        Checks.due("an empty one", chain.clearText(), 0);
        Look.type(chain, "w5;w");
        Checks.due("clearText()", chain.clearText(), 4);
        Checks.due("count(6)", chain.count(6), 0);
        Checks.due("count(7)", chain.count(7), 0);
        Look.type(chain, "w6;");
        Checks.due("runScript()", chain.runScript(), 1);
        Checks.due("count(2)", chain.count(2), 6);
    }

    private static void runs() {
        ColdChain chain = Look.withOpenVan(0, 5);
        chain.addVan(0, 5);
        chain.loadPallet(0, 0, 300, 0, 1);
        chain.loadPallet(0, 0, -300, 0, 1);
        chain.setProbe(1, 2, 2, 400);
        chain.setProbe(0, 1, 2, 400);
        Checks.due("runScript()", Look.script(chain, "w7;c0;w120;o1;r1.2;o0;d0;d1;"), 8);
        Checks.due("count(2)", chain.count(2), 127);
        Checks.due("count(6)", chain.count(6), 0);
        Checks.due("van(0, 2)", chain.van(0, 2), 1);
        Checks.due("van(1, 2)", chain.van(1, 2), 1);
        Checks.due("pallet(0, 5)", chain.pallet(0, 5), 1);
        Checks.due("pallet(1, 5)", chain.pallet(1, 5), 2);
        Checks.due("pallet(1, 6)", chain.pallet(1, 6), 7);
        Checks.due("pallet(1, 7)", chain.pallet(1, 7), 120);
        Checks.due("zone(1, 2, 3)", chain.zone(1, 2, 3), 0);
        Checks.due("zone(1, 2, 4)", chain.zone(1, 2, 4), 0);
        Checks.due("zone(0, 1, 4)", chain.zone(0, 1, 4), 1);
        Checks.due("log(1, 2, 127, 0)", chain.log(1, 2, 127, 0), 0);
    }

    private static void spaces() {
        ColdChain chain = Look.withVan(0, 5);
        Checks.due("everywhere", Look.script(chain, "  o 0 ;  r  0  .  1  ;w  3;   "), 3);
        Checks.due("count(2)", chain.count(2), 3);
        Checks.due("only spaces", Look.script(chain, "   "), 0);
        Checks.due("count(6)", chain.count(6), 0);
        Checks.due("within a number", Look.script(chain, "w1 0;"), -200003);
        Checks.due("within a longer number", Look.script(chain, "w12   3;"), -200006);
        Checks.due("a tabulator", Look.script(chain, "w\t3;"), -200001);
        Checks.due("a line's end", Look.script(chain, "w3;\n"), -200003);
    }

    private static void empty() {
        ColdChain chain = new ColdChain();
        Checks.due("runScript()", chain.runScript(), 0);
        Checks.due("count(7)", chain.count(7), 1);
        Checks.due("undo()", chain.undo(), 0);
    }

    private static void errorPositions() {
        Object[][] rows = {
            {"o", 1}, {"o ", 2}, {"o0", 2}, {"o0 ", 3}, {"o;", 1}, {"o0.", 2}, {"o0.1;", 2}, {"o-1;", 1},
            {"O0;", 0}, {"x", 0}, {";", 0}, {"0", 0}, {".", 0}, {" ;", 1}, {"o0;;", 3}, {"o0;c", 4}, {"o0c0;", 2},
            {"w00;", 1}, {"w01;", 1}, {"w000;", 1}, {"w 01;", 2}, {"w1000;", 1}, {"w9999", 1}, {"w  9999", 3},
            {"w00", 1}, {"w0000;", 1}, {"w12a;", 3}, {"w12", 3}, {"w1.", 2},
            {"r", 1}, {"r0", 2}, {"r0;", 2}, {"r0.", 3}, {"r0.;", 3}, {"r0.1", 4}, {"r0.1.", 4}, {"r0 1;", 3},
            {"r00.1;", 1}, {"r0.01;", 3}, {"r0.1000;", 3}, {"r1000.1;", 1}, {"r.1;", 1}, {"r0..1;", 3},
            {"rr", 1}, {"dd", 1}, {"d0;w1;c0", 8}, {"d0,", 2}, {"w1;w1;w1;q", 9}, {"w/;", 1}, {"w:;", 1},
        };
        for (Object[] row : rows) {
            ColdChain chain = Look.withVan(0, 5);
            Checks.due("'" + row[0] + "'", Look.script(chain, (String) row[0]), -200000 - (Integer) row[1]);
            Checks.due("count(7)", chain.count(7), 1);
        }
    }

    private static void everyCharacter() {
        for (int code = 0; code <= 255; code++) {
            ColdChain chain = new ColdChain();
            chain.appendCharacter(code);
            boolean isLetter = "ocwdr".indexOf(code) >= 0;
            int due = isLetter ? -200001 : code == ' ' ? 0 : -200000;
            Checks.due("code " + code, chain.runScript(), due);
        }
    }

    private static ColdChain typed(ColdChain chain, String text) {
        Look.type(chain, text);
        return chain;
    }

    private static ColdChain withPallet() {
        ColdChain chain = Edge.openVan();
        chain.loadPallet(0, 0, -300, 0, 1);
        return chain;
    }

    private static void failingCommands() {
        String[] first = {"o0;", "o1;", "c1;", "o999;", "w0;", "w301;", "w999;", "d1;", "d12;", "r0.3;", "r1.0;"};
        for (String text : first) {
            Edge.refuse(text, -300000, () -> typed(withPallet(), text), ColdChain::runScript);
        }
        Object[][] later = {{"w300;w300;w1;", 2}, {"c0;d0;", 1}, {"d0;d0;", 1}, {"c0;o0;w5;w0;c0;", 3},
            {"c0;c0;q", -1}, {"r0.0;r0.1;r0.2;r0.3;", 3}};
        for (Object[] row : later) {
            int number = (Integer) row[1];
            String text = (String) row[0];
            Edge.refuse(text, number < 0 ? -200006 : -300000 - number, () -> typed(withPallet(), text),
                ColdChain::runScript);
        }
    }

    private static void keepsText() {
        ColdChain chain = Look.withVan(0, 5);
        Look.type(chain, "o0");
        Checks.due("runScript()", chain.runScript(), -200002);
        Look.type(chain, ";c1;");
        Checks.due("runScript()", chain.runScript(), -300001);
        Checks.due("count(6)", chain.count(6), 6);
        chain.addVan(0, 5);
        chain.door(1, 1);
        Checks.due("runScript()", chain.runScript(), 2);
        Checks.due("van(0, 2)", chain.van(0, 2), 1);
        Checks.due("van(1, 2)", chain.van(1, 2), 0);
        Checks.due("count(6)", chain.count(6), 0);
    }

    private static void oneEdit() {
        ColdChain chain = Look.withVan(0, 5);
        String before = Edge.numbers(chain);
        Checks.due("runScript()", Look.script(chain, "o0;w5;c0;w5;o0;w9;c0;w5;"), 8);
        Checks.due("count(7)", chain.count(7), 2);
        Checks.due("undo()", chain.undo(), 1);
        Checks.isTrue("all is undone", before.equals(Edge.numbers(chain)));
        Look.script(chain, "w1;");
        Look.type(chain, "w");
        Checks.due("undo()", chain.undo(), 1);
        Checks.due("the text stays", chain.count(6), 1);
    }

    private static void longest() {
        ColdChain chain = new ColdChain();
        Checks.due("26 commands", Look.script(chain, "w1;".repeat(26) + "  "), 26);
        Checks.due("count(2)", chain.count(2), 26);
        Checks.due("26 and a half", Look.script(chain, "w1;".repeat(26) + "w1"), -200080);
        Checks.due("a long number", Look.script(chain, "w" + "1".repeat(79)), -200001);
        Checks.due("zeros", Look.script(chain, "0".repeat(80)), -200000);
        Checks.due("letters", Look.script(chain, "o".repeat(80)), -200001);
    }

    private static void noTraces() {
        ColdChain chain = Look.withOpenVan(0, 5);
        chain.pass(2);
        Checks.due("runScript()", Look.script(chain, "w5;o0;"), -300001);
        Checks.due("log(0, 2, 2, 0)", chain.log(0, 2, 2, 0), 42);
        Checks.due("log(0, 2, 3, 0)", chain.log(0, 2, 3, 0), Look.NONE);
        Checks.due("warm", chain.warm(0, 2, 0, 0, 600, 0), 2);
        chain.door(0, 0);
        chain.pass(1);
        Checks.due("log(0, 2, 3, 0)", chain.log(0, 2, 3, 0), 36);
    }
}
