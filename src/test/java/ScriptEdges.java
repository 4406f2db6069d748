/** What the document says of the script, and promises 12 to 14. */
final class ScriptEdges {
    private ScriptEdges() {
    }

    static void run() {
        texts();
        commands();
        numbers();
        signs();
        positions();
        appendCharacter();
        clearText();
        runScript();
    }

    /** See Edge.busy(): the door 0 is open, the door 1 closed, the pallet 3 in the van 0, at the time 4. */
    private static ColdChain typed(String text) {
        ColdChain chain = Edge.busy();
        chain.clearText();
        Look.type(chain, text);
        return chain;
    }

    private static void runs(String text, int due) {
        ColdChain chain = typed(text);
        Checks.due("'" + text + "'", chain.runScript(), due);
        Checks.due("the text after '" + text + "'", chain.count(6), 0);
    }

    /** The text has an error at this position; with it nothing changes. */
    private static void errs(String text, int position) {
        Edge.refuse("'" + text + "'", -200000 - position, () -> typed(text), ColdChain::runScript);
    }

    private static void fails(String text, int command) {
        Edge.refuse("'" + text + "'", -300000 - command, () -> typed(text), ColdChain::runScript);
    }

    private static void texts() {
        Edge edge = new Edge("Script");
        String most = "Work can be told by a text of at most 80 characters, which is built one character at a time";
        edge.test(most, "80 are taken and read to the last", () -> {
            runs("w1;".repeat(26) + "  ", 26);
            errs("w1;".repeat(26) + " ;", 79);
            runs("w1;".repeat(25) + "w 9 ;", 26);
        });
        edge.refused(most, "an 81st is refused", Look.FULL, () -> typed("w1;".repeat(26) + "w1"),
            c -> c.appendCharacter(';'), c -> c.appendCharacter(' '));
        edge.test("a sequence of commands, perhaps empty", "no character, only spaces", () -> {
            runs("", 0);
            runs(" ", 0);
            runs(" ".repeat(80), 0);
        });
        edge.test("each of which ends with \";\"", "the last one too, and none without a command", () -> {
            runs("o1;", 1);
            errs("o1", 2);
            errs("w1;o1", 5);
            errs("o1 c1;", 3);
            errs(";", 0);
            errs("o1;;", 3);
        });
    }

    private static void commands() {
        Edge edge = new Edge("Script");
        edge.test("\"o\" VAN opens a door", "door 1", () -> {
            ColdChain chain = typed("o1;");
            Checks.due("runScript()", chain.runScript(), 1);
            Checks.due("van(1, 2)", chain.van(1, 2), 1);
            Checks.due("van(0, 2)", chain.van(0, 2), 1);
        });
        edge.test("\"c\" VAN closes it", "door 0", () -> {
            ColdChain chain = typed("c0;");
            Checks.due("runScript()", chain.runScript(), 1);
            Checks.due("van(0, 2)", chain.van(0, 2), 0);
            Checks.due("van(1, 2)", chain.van(1, 2), 0);
        });
        edge.test("\"w\" MINUTES waits", "1 and 300", () -> {
            ColdChain chain = typed("w1;");
            chain.runScript();
            Checks.due("count(2)", chain.count(2), 5);
            Look.script(chain, "w300;");
            Checks.due("count(2)", chain.count(2), 305);
        });
        edge.test("\"d\" PALLET delivers", "accepted and rejected", () -> {
            ColdChain chain = typed("d3;");
            Checks.due("runScript()", chain.runScript(), 1);
            Checks.due("pallet(3, 5)", chain.pallet(3, 5), 1);
            ColdChain late = typed("w30;d3;");
            Checks.due("runScript()", late.runScript(), 2);
            Checks.due("pallet(3, 5)", late.pallet(3, 5), 2);
        });
        edge.test("\"r\" VAN \".\" ZONE repairs a probe", "a found one", () -> {
            ColdChain chain = typed("r0.1;");
            Checks.due("zone(0, 1, 4)", chain.zone(0, 1, 4), 1);
            Checks.due("runScript()", chain.runScript(), 1);
            Checks.due("zone(0, 1, 4)", chain.zone(0, 1, 4), 0);
            Checks.due("zone(0, 1, 3)", chain.zone(0, 1, 3), 0);
        });
        edge.test("\"r\" VAN \".\" ZONE repairs a probe", "each of nine, at each place of a script", () -> {
            for (int first = 0; first < 9; first++) {
                ColdChain chain = Edge.threeVans();
                StringBuilder text = new StringBuilder();
                for (int k = 0; k < 9; k++) {
                    int number = (first + k) % 9;
                    chain.setProbe(number / 3, number % 3, 2, 7);
                    text.append(k < 8 ? "r" + number / 3 + "." + number % 3 + ";" : "w1;");
                }
                Checks.due("'" + text + "'", Look.script(chain, text.toString()), 9);
                for (int k = 0; k < 9; k++) {
                    int number = (first + k) % 9;
                    Checks.due("mode of " + number, chain.zone(number / 3, number % 3, 3), k < 8 ? 0 : 2);
                }
            }
        });
    }

    private static void numbers() {
        Edge edge = new Edge("Script");
        String words = "VAN, MINUTES, PALLET and ZONE are numbers of one to three digits";
        edge.test(words, "one, two and three digits; none", () -> {
            runs("w9;", 1);
            runs("w99;", 1);
            runs("w100;", 1);
            fails("w999;", 0);
            errs("w;", 1);
            errs("o;", 1);
            errs("c;", 1);
            errs("d;", 1);
            errs("r;", 1);
            errs("r.1;", 1);
            errs("r0.;", 3);
        });
        edge.test(words, "each number from 0 to 999", () -> {
            for (int number = 0; number <= 999; number++) {
                ColdChain chain = new ColdChain();
                int answer = Look.script(chain, "w" + number + ";");
                boolean passes = number >= 1 && number <= 300;
                Checks.due("w" + number + ";", answer, passes ? 1 : -300000);
                Checks.due("count(2)", chain.count(2), passes ? number : 0);
            }
        });
        edge.test(words, "four digits, in each number", () -> {
            errs("w1000;", 1);
            errs("o1000;", 1);
            errs("c1000;", 1);
            errs("d1000;", 1);
            errs("r1000.1;", 1);
            errs("r0.1000;", 3);
            errs("w" + "1".repeat(79), 1);
        });
        edge.test("without a 0 ahead of other digits", "0 alone is one; 00, 01, 012 and 0123 are none", () -> {
            runs("c0;", 1);
            runs("r0.0;", 1);
            runs("w10;", 1);
            errs("c00;", 1);
            errs("w01;", 1);
            errs("w012;", 1);
            errs("d0123;", 1);
            errs("r00.1;", 1);
            errs("r0.01;", 3);
            errs("w000;", 1);
        });
        String later = "What the numbers tell is only looked at when the commands are done, as by calls of door(), pass(),"
            + " deliver() and repair()";
        edge.test(later, "a van, minutes, a pallet, a zone that there are not", () -> {
            for (String text : new String[] {"o2;", "o999;", "c2;", "w0;", "w301;", "w999;", "d4;", "d12;", "d999;",
                "r2.0;", "r0.3;", "r999.999;"}) {
                fails(text, 0);
            }
        });
        edge.test(later, "states in which it is not possible, time that there is not", () -> {
            for (String text : new String[] {"o0;", "c1;", "d0;", "d1;", "d2;"}) {
                fails(text, 0);
            }
            fails("c0;d3;", 1);
            fails("w300;w297;", 1);
            runs("w300;w296;", 2);
        });
    }

    private static void signs() {
        Edge edge = new Edge("Script");
        String spaces = "Spaces (code 32) may stand everywhere except within numbers";
        edge.test(spaces, "ahead, between, behind", () -> {
            runs(" o1;", 1);
            runs("o 1;", 1);
            runs("o1 ;", 1);
            runs("o1; ", 1);
            runs("   r   0   .   1   ;   w   12   ;   ", 2);
        });
        edge.test(spaces, "within numbers they are none of theirs", () -> {
            errs("w1 0;", 3);
            errs("w12  3;", 5);
            errs("r0.1 1;", 5);
            errs("r0 0.1;", 3);
        });
        edge.test("(code 32)", "no other code is one", () -> {
            for (char code : new char[] {0, 9, 10, 13, 31, 33, 160, 255}) {
                errs(code + "o1;", 0);
                errs("o" + code + "1;", 1);
                errs("o1" + code + ";", 2);
                errs("o1;" + code, 3);
            }
        });
    }

    private static void positions() {
        Edge edge = new Edge("Script");
        edge.test("The text is read from left to right, before anything is done", "the first of two errors; no command", () -> {
            errs("w1;o1;q", 6);
            errs("w1q;o00;", 2);
            errs("o9;w1;w", 7);
            errs("w01;w1000;", 1);
        });
        String first = "the error position is the offset (from 0) of the first character that is not allowed where it stands";
        edge.test(first, "each of the 256 codes at each place", () -> {
            everyCode("", "ocwdr ");
            everyCode("w1;", "ocwdr ");
            everyCode("o", "0123456789 ");
            everyCode("r", "0123456789 ");
            everyCode("r0.", "0123456789 ");
            everyCode("o1", "0123456789; ");
            everyCode("o0", "; ");
            everyCode("o1 ", "; ");
            everyCode("r1", "0123456789. ");
            everyCode("r1 ", ". ");
            everyCode("r0.1", "0123456789; ");
            everyCode("r0.1 ", "; ");
        });
        edge.test("(of a number with a 0 ahead, or with more than three digits, its first digit)",
            "behind spaces, at the end, at the offset 79", () -> {
                errs("w   01;", 4);
                errs("w   1000;", 4);
                errs("w00", 1);
                errs("w1000", 1);
                errs("r0. 0000;", 4);
                errs(" ".repeat(75) + "w 100", 80);
                errs(" ".repeat(74) + "w 1000", 76);
                errs(" ".repeat(77) + "w00", 78);
            });
        edge.test("If the text ends where something is missing, it is the length of the text", "at each place", () -> {
            for (String text : new String[] {"o", "o ", "o1", "o1 ", "w1;c", "r", "r0", "r0 ", "r0.", "r0. ", "r0.1",
                "r0.1 ", "w12", "w123", "w1".concat(" ".repeat(78)), "w1;".repeat(26) + "w1"}) {
                errs(text, text.length());
            }
        });
    }

    /** Behind this beginning the codes of these characters are allowed, and no others. */
    private static void everyCode(String beginning, String allowed) {
        for (int code = 0; code <= 255; code++) {
            ColdChain chain = typed(beginning);
            chain.appendCharacter(code);
            String name = "code " + code + " behind '" + beginning + "'";
            int answer = chain.runScript();
            if (allowed.indexOf(code) < 0) {
                // A digit behind a 0 makes a number that is wrong from its first digit on.
                boolean second = beginning.endsWith("0") && code >= '0' && code <= '9';
                Checks.due(name, answer, -200000 - beginning.length() + (second ? 1 : 0));
            } else if (answer <= -200000 && answer > -300000) {
                Checks.due(name, answer, -200000 - beginning.length() - 1);
            } else {
                Checks.isTrue(name + " ends a command or is a space between: " + answer, code == ';' || code == ' ');
            }
        }
    }

    private static void appendCharacter() {
        Edge edge = new Edge("Promise 12");
        edge.test("Appends a character to the text", "behind the others", () -> {
            ColdChain chain = typed("w1");
            chain.appendCharacter('2');
            chain.appendCharacter(';');
            Checks.due("runScript()", chain.runScript(), 1);
            Checks.due("count(2)", chain.count(2), 16);
        });
        edge.names("`character`: character code, 0 to 255", 0, 255, ColdChain::new, ColdChain::appendCharacter);
        edge.test("Returns the new length of the text", "1, 2, 80", () -> {
            ColdChain chain = new ColdChain();
            for (int length = 1; length <= 80; length++) {
                Checks.due("appendCharacter", chain.appendCharacter(255), length);
                Checks.due("count(6)", chain.count(6), length);
            }
        });
        edge.refused("INVALID_ARGUMENT if character is out of range", "with a full text too", Look.INVALID,
            () -> typed("o".repeat(80)), c -> c.appendCharacter(-1), c -> c.appendCharacter(256),
            c -> c.appendCharacter(Look.LOW), c -> c.appendCharacter(Look.HIGH));
        edge.test("CAPACITY_EXCEEDED if the text has 80 characters", "with 79 it is taken", () ->
            Checks.due("the 80th", typed("o".repeat(79)).appendCharacter(' '), 80));
        edge.refused("CAPACITY_EXCEEDED if the text has 80 characters", "with 80 it is refused", Look.FULL,
            () -> typed("o".repeat(80)), c -> c.appendCharacter(0), c -> c.appendCharacter(255));
    }

    private static void clearText() {
        Edge edge = new Edge("Promise 13");
        edge.test("Makes the text empty", "nothing of it is left", () -> {
            ColdChain chain = typed("o1;w1;q");
            chain.clearText();
            Checks.due("count(6)", chain.count(6), 0);
            Checks.due("runScript()", chain.runScript(), 0);
            Checks.due("count(2)", chain.count(2), 4);
            Checks.due("appendCharacter", chain.appendCharacter('w'), 1);
        });
        edge.test("Returns the previous length of the text", "0, 1, 80", () -> {
            Checks.due("an empty one", new ColdChain().clearText(), 0);
            Checks.due("one character", typed("q").clearText(), 1);
            Checks.due("a full one", typed("q".repeat(80)).clearText(), 80);
            ColdChain chain = typed("q");
            chain.clearText();
            Checks.due("a second time", chain.clearText(), 0);
        });
    }

    private static void runScript() {
        Edge edge = new Edge("Promise 14");
        edge.test("Does the commands of the text in their order", "a command that another one makes possible", () -> {
            runs("o1;c1;", 2);
            runs("c0;o0;d3;", 3);
            fails("c1;o1;", 0);
        });
        edge.test("The text becomes empty", "with and without commands", () -> {
            runs("w1;", 1);
            runs("  ", 0);
        });
        edge.test("This is one edit", "of several commands, of none", () -> {
            for (String text : new String[] {"o1;w1;c1;w1;", " ", ""}) {
                ColdChain chain = typed(text);
                chain.undo();
                Checks.due("count(7)", chain.count(7), 5);
                String due = Edge.numbers(chain);
                chain.runScript();
                Checks.due("count(7)", chain.count(7), 6);
                chain.undo();
                Look.type(chain, text);
                Checks.isTrue("'" + text + "' is undone at once", due.equals(Edge.numbers(chain)));
            }
        });
        edge.test("Returns the number of commands", "0, 1, 26", () -> {
            runs("", 0);
            runs("w1;", 1);
            runs("w1;".repeat(26), 26);
        });
        edge.test("-200000 minus the error position if the text has an error", "at 0, at 79, at 80", () -> {
            errs("q", 0);
            errs(" ".repeat(79) + "q", 79);
            errs(" ".repeat(79) + "o", 80);
        });
        edge.test("-300000 minus the number of the first command, from 0, that returns an error code when its turn comes",
            "the first, the second of three, the last of 26", () -> {
                fails("o0;", 0);
                fails("o1;o1;c1;", 1);
                fails("w1;".repeat(25) + "w0;", 25);
                fails("c0;c0;c0;", 1);
                fails("d3;d3;", 1);
            });
        edge.test("in both cases nothing changes, and the text is kept", "it can be mended and run", () -> {
            ColdChain chain = typed("c1");
            Checks.due("without its end", chain.runScript(), -200002);
            chain.appendCharacter(';');
            Checks.due("closed already", chain.runScript(), -300000);
            Checks.due("count(6)", chain.count(6), 3);
            chain.door(1, 1);
            Checks.due("open now", chain.runScript(), 1);
            Checks.due("van(1, 2)", chain.van(1, 2), 0);
        });
        edge.test("in both cases nothing changes, and the text is kept", "what was done ahead of the error is undone", () -> {
            fails("w5;r0.1;c0;o1;o0;d3;w300;w300;", 7);
            errs("w5;r0.1;c0;o1;o0;d3;w300;w300", 29);
        });
    }
}
