/** Promises 1 to 6, and what a minute does to zones and probes (9). */
final class VanTests {
    private VanTests() {
    }

    static void run() {
        Checks.test("1: a new object is empty", VanTests::newObject);
        Checks.test("1: objects share nothing", VanTests::twoObjects);
        Checks.test("2: addVan numbers the vans", VanTests::addsVans);
        Checks.test("2: addVan refuses", VanTests::refusesVans);
        Checks.test("3: setNumber answers the previous number", VanTests::setsNumbers);
        Checks.test("3: setNumber refuses", VanTests::refusesNumbers);
        Checks.test("4: setVan answers the previous set point", VanTests::setsVan);
        Checks.test("4: setVan refuses", VanTests::refusesVanSettings);
        Checks.test("5: setProbe answers the previous mode", VanTests::setsProbe);
        Checks.test("5: setProbe leaves what was found", VanTests::probeStaysFound);
        Checks.test("5: setProbe refuses", VanTests::refusesProbeSettings);
        Checks.test("6: repair", VanTests::repairs);
        Checks.test("6: repair refuses", VanTests::refusesRepairs);
        Checks.test("9: open doors warm the zones", VanTests::openDoor);
        Checks.test("9: open doors round toward 0", VanTests::openDoorRounds);
        Checks.test("9: closed doors cool the zones", VanTests::closedDoor);
        Checks.test("9: the air mixes from the front to the door", VanTests::mixing);
        Checks.test("9: odd probes", VanTests::oddProbes);
        Checks.test("9: patience", VanTests::patience);
        Checks.test("9: pass counts the probes that are found in it", VanTests::countsFound);
        Checks.test("9: pass refuses", VanTests::refusesPass);
        Checks.test("9: told temperatures of found probes", VanTests::toldTemperatures);
    }

    private static void newObject() {
        ColdChain chain = new ColdChain();
        int[] due = {0, 0, 0, 200, 30, 3, 0, 0, 0};
        for (int what = 0; what < due.length; what++) {
            Checks.due("count(" + what + ")", chain.count(what), due[what]);
        }
        for (int cause = 0; cause <= 3; cause++) {
            Checks.due("claims(" + cause + ")", chain.claims(cause), 0);
        }
        Checks.due("van(0, 0)", chain.van(0, 0), Look.INVALID);
        Checks.due("pallet(0, 0)", chain.pallet(0, 0), Look.INVALID);
        Checks.due("undo()", chain.undo(), Look.ILLEGAL);
        Checks.due("clearText()", chain.clearText(), 0);
    }

    private static void twoObjects() {
        ColdChain one = Look.withOpenVan(10, 1);
        one.pass(5);
        one.appendCharacter('o');
        ColdChain other = new ColdChain();
        Checks.due("count(0)", other.count(0), 0);
        Checks.due("count(2)", other.count(2), 0);
        Checks.due("count(6)", other.count(6), 0);
        Checks.due("count(7)", other.count(7), 0);
    }

    private static void addsVans() {
        ColdChain chain = new ColdChain();
        Checks.due("addVan(-300, 0)", chain.addVan(-300, 0), 0);
        Checks.due("addVan(100, 30)", chain.addVan(100, 30), 1);
        chain.door(1, 1);
        chain.pass(7);
        Checks.due("addVan(7, 3)", chain.addVan(7, 3), 2);
        Checks.due("count(0)", chain.count(0), 3);
        int[] due = {7, 3, 0, 0};
        for (int what = 0; what < due.length; what++) {
            Checks.due("van(2, " + what + ")", chain.van(2, what), due[what]);
        }
        Checks.isTrue("zones", Look.zones(chain, 2, 0).equals("7 7 7"));
        for (int what = 3; what <= 5; what++) {
            Checks.isTrue("probes " + what, Look.zones(chain, 2, what).equals("0 0 0"));
        }
        Checks.due("log(2, 0, 7, 0)", chain.log(2, 0, 7, 0), Look.NONE);
        chain.pass(1);
        Checks.due("log(2, 0, 8, 0)", chain.log(2, 0, 8, 0), 7);
    }

    private static void refusesVans() {
        int[][] wrong = {{-301, 0}, {101, 0}, {0, -1}, {0, 31}, {Look.LOW, 0}, {0, Look.HIGH}};
        for (int[] row : wrong) {
            Edge.refuse("addVan", Look.INVALID, ColdChain::new, c -> c.addVan(row[0], row[1]));
        }
        Edge.refuse("a fourth van", Look.FULL, Edge::threeVans, c -> c.addVan(0, 0));
        Edge.refuse("a wrong fourth van", Look.INVALID, Edge::threeVans, c -> c.addVan(0, 31));
    }

    private static void setsNumbers() {
        ColdChain chain = new ColdChain();
        int[][] rows = {{0, -200, 200}, {0, 450, -200}, {0, 7, 450}, {1, 5, 30}, {1, 100, 5}, {2, 1, 3}, {2, 30, 1}};
        for (int[] row : rows) {
            Checks.due("setNumber(" + row[0] + ", " + row[1] + ")", chain.setNumber(row[0], row[1]), row[2]);
            Checks.due("count(" + (3 + row[0]) + ")", chain.count(3 + row[0]), row[1]);
        }
        Checks.due("count(3)", chain.count(3), 7);
        Checks.due("count(4)", chain.count(4), 100);
        Checks.due("count(5)", chain.count(5), 30);
    }

    private static void refusesNumbers() {
        int[][] wrong = {{0, -201}, {0, 451}, {1, 4}, {1, 101}, {2, 0}, {2, 31}, {3, 10}, {-1, 10},
            {Look.LOW, 10}, {Look.HIGH, 10}, {0, Look.LOW}, {1, Look.HIGH}, {2, Look.LOW}};
        for (int[] row : wrong) {
            String name = "setNumber(" + row[0] + ", " + row[1] + ")";
            Edge.refuse(name, Look.INVALID, ColdChain::new, c -> c.setNumber(row[0], row[1]));
        }
    }

    private static void setsVan() {
        ColdChain chain = Look.withVan(20, 4);
        chain.addVan(-20, 5);
        Checks.due("setVan(1, -300, 30)", chain.setVan(1, -300, 30), -20);
        Checks.due("setVan(1, 100, 0)", chain.setVan(1, 100, 0), -300);
        Checks.due("van(1, 0)", chain.van(1, 0), 100);
        Checks.due("van(1, 1)", chain.van(1, 1), 0);
        Checks.due("van(0, 0)", chain.van(0, 0), 20);
        Checks.due("van(0, 1)", chain.van(0, 1), 4);
        Checks.isTrue("the temperatures stay", Look.zones(chain, 1, 0).equals("-20 -20 -20"));
    }

    private static void refusesVanSettings() {
        int[][] wrong = {{1, 0, 0}, {-1, 0, 0}, {0, -301, 0}, {0, 101, 0}, {0, 0, -1}, {0, 0, 31}, {Look.HIGH, 0, 0}};
        for (int[] row : wrong) {
            Edge.refuse("setVan", Look.INVALID, () -> Look.withVan(20, 4), c -> c.setVan(row[0], row[1], row[2]));
        }
    }

    private static void setsProbe() {
        ColdChain chain = Look.withVan(20, 4);
        Checks.due("setProbe(0, 2, 1, -200)", chain.setProbe(0, 2, 1, -200), 0);
        Checks.due("shifted by -200", chain.zone(0, 2, 1), -180);
        Checks.due("setProbe(0, 2, 1, 200)", chain.setProbe(0, 2, 1, 200), 1);
        Checks.due("shifted by 200", chain.zone(0, 2, 1), 220);
        Checks.due("setProbe(0, 2, 2, -300)", chain.setProbe(0, 2, 2, -300), 1);
        Checks.due("stuck at -300", chain.zone(0, 2, 1), -300);
        Checks.due("mode", chain.zone(0, 2, 3), 2);
        Checks.due("setProbe(0, 2, 2, 450)", chain.setProbe(0, 2, 2, 450), 2);
        Checks.due("stuck at 450", chain.zone(0, 2, 1), 450);
        Checks.due("setProbe(0, 2, 0, 0)", chain.setProbe(0, 2, 0, 0), 2);
        Checks.due("right", chain.zone(0, 2, 1), 20);
        Checks.isTrue("the temperatures stay", Look.zones(chain, 0, 0).equals("20 20 20"));
    }

    private static void probeStaysFound() {
        ColdChain chain = Look.withVan(0, 5);
        chain.setProbe(0, 0, 1, 31);
        chain.pass(2);
        chain.setProbe(0, 0, 1, 200);
        Checks.due("odd minutes stay", chain.zone(0, 0, 5), 2);
        Checks.due("pass(1)", chain.pass(1), 1);
        chain.setProbe(0, 0, 0, 0);
        Checks.due("found", chain.zone(0, 0, 4), 1);
        Checks.due("odd minutes", chain.zone(0, 0, 5), 3);
        chain.pass(1);
        Checks.due("found after a right minute", chain.zone(0, 0, 4), 1);
        Checks.due("odd minutes after a right minute", chain.zone(0, 0, 5), 0);
    }

    private static void refusesProbeSettings() {
        int[][] wrong = {{1, 0, 0, 0}, {-1, 0, 0, 0}, {0, -1, 0, 0}, {0, 3, 0, 0}, {0, 0, -1, 0}, {0, 0, 3, 0},
            {0, 0, 0, 1}, {0, 0, 0, -1}, {0, 0, 1, -201}, {0, 0, 1, 201}, {0, 0, 2, -301}, {0, 0, 2, 451},
            {0, Look.HIGH, 0, 0}, {0, 0, Look.LOW, 0}};
        for (int[] row : wrong) {
            Edge.refuse("setProbe", Look.INVALID, () -> Look.withVan(20, 4),
                c -> c.setProbe(row[0], row[1], row[2], row[3]));
        }
    }

    private static void repairs() {
        ColdChain chain = Look.withVan(0, 5);
        chain.setProbe(0, 2, 2, 99);
        chain.pass(2);
        Checks.due("repair(0, 2), not found yet", chain.repair(0, 2), 0);
        Checks.due("mode", chain.zone(0, 2, 3), 0);
        Checks.due("reading", chain.zone(0, 2, 1), 0);
        Checks.due("odd minutes", chain.zone(0, 2, 5), 0);
        chain.setProbe(0, 2, 1, 99);
        Checks.due("pass(3)", chain.pass(3), 1);
        Checks.due("repair(0, 2)", chain.repair(0, 2), 1);
        Checks.due("found", chain.zone(0, 2, 4), 0);
        Checks.due("odd minutes", chain.zone(0, 2, 5), 0);
        Checks.due("reading", chain.zone(0, 2, 1), 0);
        Checks.due("repair(0, 2) again", chain.repair(0, 2), 0);
    }

    private static void refusesRepairs() {
        int[][] wrong = {{1, 0}, {-1, 0}, {0, -1}, {0, 3}, {Look.LOW, Look.HIGH}};
        for (int[] row : wrong) {
            Edge.refuse("repair", Look.INVALID, Edge::closedVan, c -> c.repair(row[0], row[1]));
        }
    }

    private static void openDoor() {
        ColdChain chain = Look.withOpenVan(0, 5);
        chain.pass(1);
        // 6 12 24; then nothing moves from 0 to 1, and 1 moves from 2 to 1
        Checks.isTrue("minute 1: " + Look.zones(chain, 0, 0), Look.zones(chain, 0, 0).equals("6 13 23"));
        chain.pass(1);
        // 11 24 44; 12 23 44; 12 25 42
        Checks.isTrue("minute 2: " + Look.zones(chain, 0, 0), Look.zones(chain, 0, 0).equals("12 25 42"));
        chain.door(0, 0);
        chain.pass(1);
        // 7 20 37; 8 19 37; 8 20 36
        Checks.isTrue("minute 3: " + Look.zones(chain, 0, 0), Look.zones(chain, 0, 0).equals("8 20 36"));
        Checks.due("count(2)", chain.count(2), 3);
    }

    private static void openDoorRounds() {
        ColdChain chain = Look.withOpenVan(0, 5);
        chain.setNumber(0, -8);
        chain.pass(1);
        Checks.isTrue("-24, -48 and -96 hundredths", Look.zones(chain, 0, 0).equals("0 0 0"));
        chain.setNumber(0, -200);
        chain.pass(1);
        // -6 -12 -24; from 1 to 2 moves 1
        Checks.isTrue("minute 2: " + Look.zones(chain, 0, 0), Look.zones(chain, 0, 0).equals("-6 -13 -23"));
    }

    private static void closedDoor() {
        ColdChain chain = Look.withOpenVan(0, 5);
        chain.pass(1);
        chain.door(0, 0);
        chain.setVan(0, 10, 5);
        chain.pass(1);
        Checks.isTrue("minute 2: " + Look.zones(chain, 0, 0), Look.zones(chain, 0, 0).equals("7 10 18"));
        chain.pass(2);
        Checks.isTrue("minute 4: " + Look.zones(chain, 0, 0), Look.zones(chain, 0, 0).equals("9 10 10"));
        chain.pass(2);
        Checks.isTrue("minute 6: " + Look.zones(chain, 0, 0), Look.zones(chain, 0, 0).equals("10 10 10"));
        chain.setVan(0, -10, 0);
        chain.pass(3);
        Checks.isTrue("without a cooling", Look.zones(chain, 0, 0).equals("10 10 10"));
    }

    private static void mixing() {
        ColdChain chain = Look.withOpenVan(-300, 30);
        chain.setNumber(0, 450);
        chain.pass(1);
        // -278 -255 -210; 0 and 1: -2: -276 -257; 1 and 2: -4: -253 -214
        Checks.isTrue("minute 1: " + Look.zones(chain, 0, 0), Look.zones(chain, 0, 0).equals("-276 -253 -214"));
        chain.pass(1);
        // -255 -211 -135; 0 and 1: -4: -251 -215; 1 and 2: -8: -207 -143
        Checks.isTrue("minute 2: " + Look.zones(chain, 0, 0), Look.zones(chain, 0, 0).equals("-251 -207 -143"));
    }

    private static void oddProbes() {
        ColdChain chain = Look.withVan(0, 5);
        chain.setProbe(0, 1, 1, 30);
        chain.pass(1);
        Checks.isTrue("30 is not more than D", Look.zones(chain, 0, 5).equals("0 0 0"));
        chain.setProbe(0, 1, 1, -31);
        chain.pass(1);
        Checks.isTrue("-31", Look.zones(chain, 0, 5).equals("0 1 0"));
        chain.setProbe(0, 0, 1, 1);
        chain.setProbe(0, 2, 1, -1);
        chain.pass(1);
        Checks.isTrue("near to one of the others", Look.zones(chain, 0, 5).equals("0 0 0"));
        chain.setProbe(0, 0, 1, 31);
        chain.setProbe(0, 1, 0, 0);
        chain.setProbe(0, 2, 1, -30);
        chain.pass(1);
        Checks.isTrue("the others differ by 30", Look.zones(chain, 0, 5).equals("1 0 0"));
        chain.setProbe(0, 2, 1, -31);
        chain.pass(1);
        Checks.isTrue("the others differ by 31", Look.zones(chain, 0, 5).equals("0 0 0"));
        chain.setNumber(1, 31);
        chain.pass(1);
        Checks.isTrue("with D 31", Look.zones(chain, 0, 5).equals("0 0 0"));
        chain.setProbe(0, 2, 1, -32);
        chain.pass(1);
        Checks.isTrue("-32 with D 31", Look.zones(chain, 0, 5).equals("0 0 1"));
    }

    private static void patience() {
        ColdChain chain = Look.withVan(0, 5);
        chain.setNumber(2, 5);
        chain.setProbe(0, 0, 2, 300);
        Checks.due("pass(4)", chain.pass(4), 0);
        Checks.due("odd minutes", chain.zone(0, 0, 5), 4);
        chain.setNumber(2, 2);
        Checks.due("found before a minute has passed", chain.zone(0, 0, 4), 0);
        chain.setProbe(0, 0, 0, 0);
        Checks.due("a right minute", chain.pass(1), 0);
        chain.setProbe(0, 0, 2, 300);
        Checks.due("one odd minute", chain.pass(1), 0);
        Checks.due("two odd minutes", chain.pass(1), 1);
        chain.setNumber(2, 1);
        chain.setProbe(0, 1, 2, -300);
        chain.setProbe(0, 0, 0, 0);
        Checks.due("one odd minute with M 1", chain.pass(1), 1);
        Checks.isTrue("found ones", Look.zones(chain, 0, 4).equals("1 1 0"));
    }

    private static void countsFound() {
        ColdChain chain = Look.withVan(0, 5);
        chain.addVan(10, 5);
        chain.addVan(20, 5);
        chain.setProbe(0, 0, 2, 100);
        chain.setProbe(2, 2, 2, 100);
        Checks.due("pass(2)", chain.pass(2), 0);
        chain.setProbe(1, 1, 2, 100);
        Checks.due("pass(3)", chain.pass(3), 3);
        Checks.due("count(8)", chain.count(8), 3);
        Checks.due("pass(300)", chain.pass(300), 0);
        Checks.due("odd minutes", chain.zone(0, 0, 5), 305);
        Checks.due("repair(1, 1)", chain.repair(1, 1), 1);
        Checks.due("count(8)", chain.count(8), 2);
    }

    private static void refusesPass() {
        for (int minutes : new int[] {0, -1, 301, Look.LOW, Look.HIGH}) {
            Edge.refuse("pass(" + minutes + ")", Look.INVALID, ColdChain::new, c -> c.pass(minutes));
        }
        ColdChain chain = new ColdChain();
        Checks.due("pass(300)", chain.pass(300), 0);
        Checks.due("pass(299)", chain.pass(299), 0);
        Checks.due("pass(2) at 599", chain.pass(2), Look.FULL);
        Checks.due("pass(301) at 599", chain.pass(301), Look.INVALID);
        Checks.due("pass(1) at 599", chain.pass(1), 0);
        Checks.due("count(2)", chain.count(2), 600);
        Checks.due("pass(1) at 600", chain.pass(1), Look.FULL);
    }

    private static void toldTemperatures() {
        ColdChain chain = Look.withVan(0, 5);
        chain.setProbe(0, 1, 2, 450);
        chain.pass(3);
        Checks.isTrue("found", Look.zones(chain, 0, 4).equals("0 1 0"));
        chain.setProbe(0, 0, 2, -5);
        chain.setProbe(0, 2, 2, -10);
        Checks.isTrue("half of -15 rounded down", Look.zones(chain, 0, 2).equals("-5 -8 -10"));
        chain.setProbe(0, 2, 2, 10);
        Checks.isTrue("half of 5 rounded down", Look.zones(chain, 0, 2).equals("-5 2 10"));
        chain.setProbe(0, 0, 0, 0);
        chain.setProbe(0, 1, 0, 0);
        chain.setProbe(0, 2, 2, 450);
        chain.pass(3);
        Checks.isTrue("two found ones", Look.zones(chain, 0, 4).equals("0 1 1"));
        Checks.isTrue("found ones count as neighbors", Look.zones(chain, 0, 2).equals("0 225 0"));
    }
}
