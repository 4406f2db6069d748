/** What the document says of its use, the time and the vans, and promises 1 to 4, 8 and 9. */
final class VanEdges {
    private VanEdges() {
    }

    static void run() {
        uses();
        terms();
        vans();
        temperatures();
        minutes();
        openMinutes();
        closedMinutes();
        airAndLog();
        newObject();
        addVan();
        setNumber();
        setVan();
        door();
        pass();
    }

    private static void zonesAre(String name, ColdChain chain, int van, String due) {
        String got = Look.zones(chain, van, 0);
        Checks.isTrue(name + ": " + got + ", due is " + due, got.equals(due));
    }

    private static void uses() {
        Edge edge = new Edge("What it is");
        edge.test("An object is used for at most 512 calls after it has been made", "the 512th is answered", () -> {
            ColdChain chain = Edge.closedVan();
            int previous = 200;
            for (int call = 2; call <= 512; call++) {
                Checks.due("call " + call, chain.setNumber(0, call % 450), previous);
                previous = call % 450;
            }
        });
        edge.test("what later calls answer is free", "they still throw nothing", () -> {
            ColdChain chain = Edge.busy();
            for (int round = 0; round < 600; round++) {
                chain.pass(1 + round % 3);
                chain.appendCharacter("w1; ".charAt(round % 4));
                chain.runScript();
                chain.addVan(0, 0);
                chain.loadPallet(round % 3, 0, 0, 0, 0);
                chain.door(round % 3, round / 3 % 2);
                chain.log(0, 0, round + 1, 0);
                if (round % 5 == 0) {
                    chain.undo();
                }
            }
        });
    }

    private static void terms() {
        Edge edge = new Edge("Terms");
        edge.test("\"/\" is the division rounded toward 0, if nothing else is said", "above 0 and below it", () -> {
            int[] outsides = {8, -8};
            for (int outside : outsides) {
                ColdChain chain = Edge.openVan();
                chain.setNumber(0, outside);
                chain.pass(1);
                zonesAre("24, 48 and 96 hundredths of " + outside, chain, 0, "0 0 0");
            }
        });
        edge.test("it is 0 at first", "of a new object, with a van too", () -> {
            Checks.due("count(2)", new ColdChain().count(2), 0);
            Checks.due("count(2)", Edge.openVan().count(2), 0);
        });
        edge.test("at most 600", "600 is reached", () -> {
            ColdChain chain = Edge.at(599);
            Checks.due("pass(1)", chain.pass(1), 0);
            Checks.due("count(2)", chain.count(2), 600);
        });
        edge.refused("at most 600", "601 is not", Look.FULL, () -> Edge.at(600), c -> c.pass(1), c -> c.pass(300));
    }

    private static void vans() {
        Edge edge = new Edge("Vans");
        edge.test("There are at most 3 vans", "a third is taken", () -> {
            ColdChain chain = Edge.threeVans();
            Checks.due("count(0)", chain.count(0), 3);
            Checks.due("van(2, 0)", chain.van(2, 0), 20);
        });
        edge.refused("There are at most 3 vans", "a fourth is refused", Look.FULL, Edge::threeVans, c -> c.addVan(0, 0));
        edge.test("numbered from 0 in the order in which they were added", "0, 1 and 2", () -> {
            ColdChain chain = new ColdChain();
            for (int number = 0; number < 3; number++) {
                Checks.due("addVan", chain.addVan(10 * number, number), number);
            }
            for (int number = 0; number < 3; number++) {
                Checks.due("set point", chain.van(number, 0), 10 * number);
                Checks.due("cooling", chain.van(number, 1), number);
            }
            Checks.due("van(3, 0)", chain.van(3, 0), Look.INVALID);
        });
        edge.range("A van has a set point (-300 to 100)", -300, 100, Edge::busy,
            (c, n) -> c.setVan(1, n, 0), c -> c.van(1, 0));
        edge.range("a cooling (0 to 30)", 0, 30, Edge::busy, (c, n) -> c.setVan(1, 0, n), c -> c.van(1, 1));
        edge.test("a door, which is closed (at first) or open", "closed at first", () -> {
            ColdChain chain = Edge.threeVans();
            for (int van = 0; van < 3; van++) {
                Checks.due("door of " + van, chain.van(van, 2), 0);
            }
            chain.door(1, 1);
            Checks.due("an open one", chain.van(1, 2), 1);
            Checks.due("another one", chain.van(0, 2), 0);
        });
    }

    private static void temperatures() {
        Edge edge = new Edge("Vans");
        edge.names("three zones, 0 (in front), 1 and 2 (at the door)", 0, 2, Edge::busy, (c, n) -> c.zone(1, n, 0));
        edge.test("three zones, 0 (in front), 1 and 2 (at the door)", "2 becomes warm first, 0 last", () -> {
            ColdChain chain = Edge.openVan();
            chain.setNumber(0, 100);
            chain.pass(1);
            zonesAre("one open minute", chain, 0, "3 6 12");
        });
        edge.test("at first all have the set point as their temperature", "the lowest and the highest, later too", () -> {
            ColdChain chain = Edge.openVan();
            chain.pass(2);
            chain.addVan(-300, 0);
            chain.addVan(100, 30);
            zonesAre("lowest", chain, 1, "-300 -300 -300");
            zonesAre("highest", chain, 2, "100 100 100");
        });
        edge.test("There is one outside temperature for all vans", "two open vans go alike", () -> {
            ColdChain chain = Edge.openVan();
            chain.addVan(0, 30);
            chain.door(1, 1);
            chain.setNumber(0, -100);
            chain.pass(1);
            zonesAre("one", chain, 0, "-3 -6 -12");
            zonesAre("the other", chain, 1, "-3 -6 -12");
        });
        edge.range("-200 to 450", -200, 450, Edge::busy, (c, n) -> c.setNumber(0, n), c -> c.count(3));
        edge.test("(at first 200)", "of a new object", () -> Checks.due("count(3)", new ColdChain().count(3), 200));
    }

    private static void minutes() {
        Edge edge = new Edge("Vans");
        edge.test("In a minute, the time increases by 1", "without vans too", () -> {
            ColdChain chain = new ColdChain();
            chain.pass(1);
            Checks.due("count(2)", chain.count(2), 1);
            chain.pass(300);
            Checks.due("count(2)", chain.count(2), 301);
        });
        edge.test("in each van these things happen one after the other", "in the first and in the third", () -> {
            ColdChain chain = Edge.threeVans();
            for (int van = 0; van < 3; van++) {
                chain.setVan(van, -100, 1 + van);
            }
            chain.pass(2);
            zonesAre("van 0", chain, 0, "-2 -2 -2");
            zonesAre("van 1", chain, 1, "6 6 6");
            zonesAre("van 2", chain, 2, "14 14 14");
        });
    }

    private static void openMinutes() {
        Edge edge = new Edge("Vans");
        String open = "If the door is open, the temperature of each zone increases by (outside - temperature) * k / 100";
        edge.test(open, "the smallest differences that tell in each zone", () -> {
            String[] due = {"8: 0 0 0", "9: 0 0 1", "16: 0 0 1", "17: 0 1 2", "33: 0 1 3", "34: 1 2 4"};
            for (String row : due) {
                openMinute(0, Integer.parseInt(row.split(":")[0]), row.split(": ")[1]);
            }
        });
        edge.test(open, "the same below 0", () -> {
            String[] due = {"-8: 0 0 0", "-9: 0 0 -1", "-16: 0 0 -1", "-17: 0 -1 -2", "-33: 0 -1 -3", "-34: -1 -2 -4"};
            for (String row : due) {
                openMinute(0, Integer.parseInt(row.split(":")[0]), row.split(": ")[1]);
            }
        });
        edge.test(open, "as warm outside as inside", () -> openMinute(77, 77, "77 77 77"));
        edge.test(open, "the farthest", () -> {
            // -278 -255 -210; -2 moves: -276 -257; -4 moves: -253 -214
            openMinute(-300, 450, "-276 -253 -214");
            // 91 82 64; nothing moves; 1 moves: 81 65
            openMinute(100, -200, "91 81 65");
        });
        edge.test("where k is 3, 6 and 12 for the zones 0, 1 and 2", "100 outside", () -> {
            openMinute(0, 100, "3 6 12");
            openMinute(0, -100, "-3 -6 -12");
        });
    }

    /** What the probes read makes no difference to the temperatures. */
    private static void otherProbes(ColdChain chain) {
        chain.setNumber(2, 1);
        chain.setProbe(0, 1, 1, 200);
        chain.setProbe(0, 2, 2, -300);
    }

    /** Neither the set point nor the cooling counts while the door is open. */
    private static void openMinute(int temperature, int outside, String due) {
        for (int setPoint : new int[] {temperature, -300, 100}) {
            ColdChain chain = Look.withOpenVan(temperature, 30);
            chain.setVan(0, setPoint, 30);
            chain.setNumber(0, outside);
            otherProbes(chain);
            chain.pass(1);
            zonesAre(temperature + " with " + outside + " outside", chain, 0, due);
        }
    }

    private static void closedMinutes() {
        Edge edge = new Edge("Vans");
        edge.test("decreases by the cooling if it is above the set point", "by 0, by 1, by 30", () -> {
            closedMinute(-300, 0, 10);
            closedMinute(-300, 1, 9);
            closedMinute(-300, 30, -20);
            closedMinute(9, 0, 10);
        });
        edge.test("but not below the set point", "as far above as the cooling, one more, one less", () -> {
            closedMinute(5, 5, 5);
            closedMinute(4, 5, 5);
            closedMinute(6, 5, 6);
            closedMinute(9, 30, 9);
        });
        edge.test("increases by 1 if it is below the set point", "by one, by two, by far; not at it", () -> {
            closedMinute(11, 30, 11);
            closedMinute(12, 30, 11);
            closedMinute(100, 30, 11);
            closedMinute(100, 0, 11);
            closedMinute(10, 30, 10);
        });
        edge.test("If it is closed", "the outside temperature does not tell", () -> {
            ColdChain chain = Edge.closedVan();
            chain.setNumber(0, 450);
            chain.pass(9);
            zonesAre("closed", chain, 0, "0 0 0");
        });
    }

    private static void closedMinute(int setPoint, int cooling, int due) {
        ColdChain chain = Look.withVan(10, 3);
        chain.setVan(0, setPoint, cooling);
        otherProbes(chain);
        chain.pass(1);
        zonesAre("10 to " + setPoint + " by " + cooling, chain, 0, due + " " + due + " " + due);
    }

    private static void airAndLog() {
        Edge edge = new Edge("Vans");
        String air = "For the zones 0 and 1, first 0, then 1: let d be (its temperature - that of the zone behind it) / 10";
        edge.test(air, "first 0, then 1", () -> {
            // -181 -161 -122: -2 moves to -179 -163; then -4 (not -3) moves to -159 -126
            openMinute(-200, 450, "-179 -159 -126");
        });
        edge.test("its temperature decreases by d, that of the zone behind it increases by d",
            "a difference of 9 moves nothing, one of 10 moves 1", () -> {
                ColdChain chain = Look.withOpenVan(100, 0);
                chain.setNumber(0, -200);
                chain.pass(1);
                zonesAre("91 82 64", chain, 0, "91 81 65");
                chain.door(0, 0);
                chain.setVan(0, -300, 0);
                chain.pass(1);
                zonesAre("10 and 17", chain, 0, "90 81 66");
                chain.pass(1);
                zonesAre("9 and 15", chain, 0, "90 80 67");
            });
        edge.test("its temperature decreases by d, that of the zone behind it increases by d",
            "a difference of -9 moves nothing, one of -10 moves -1", () -> {
                ColdChain chain = Look.withOpenVan(0, 0);
                chain.pass(1);
                zonesAre("6 12 24", chain, 0, "6 13 23");
                chain.door(0, 0);
                chain.pass(1);
                zonesAre("-7 and -10", chain, 0, "6 14 22");
                chain.pass(1);
                zonesAre("-8 and -8", chain, 0, "6 14 22");
                ColdChain nine = Look.withOpenVan(0, 0);
                nine.setNumber(0, 150);
                nine.pass(1);
                // 4 9 18
                zonesAre("-5 and -9", nine, 0, "4 9 18");
            });
        edge.test("The probes are read, and found if they are odd", "after the air has moved", () -> {
            for (int difference = 9; difference <= 10; difference++) {
                ColdChain chain = Edge.openVan();
                chain.setNumber(1, difference);
                chain.setNumber(2, 1);
                // 0 0 0, then 6 12 24, then 6 13 23
                Checks.due("pass(1)", chain.pass(1), difference == 9 ? 1 : 0);
                Checks.due("zone(0, 2, 4)", chain.zone(0, 2, 4), difference == 9 ? 1 : 0);
            }
        });
        String log = "The temperature and the told temperature of each zone are written into the log, for this time";
        edge.test(log, "what stands at the end of the minute", () -> {
            ColdChain chain = Edge.openVan();
            chain.setNumber(2, 1);
            chain.setProbe(0, 0, 2, 400);
            chain.pass(1);
            for (int zone = 0; zone < 3; zone++) {
                Checks.due("temperature of " + zone, chain.log(0, zone, 1, 0), chain.zone(0, zone, 0));
                Checks.due("told of " + zone, chain.log(0, zone, 1, 1), chain.zone(0, zone, 2));
            }
            Checks.due("log(0, 2, 1, 0)", chain.log(0, 2, 1, 0), 23);
            Checks.due("told by 13 and 23", chain.log(0, 0, 1, 1), 18);
        });
        edge.test(log, "at the times 1, 300, 301 and 600", () -> {
            ColdChain chain = Look.withVan(0, 0);
            chain.setVan(0, 100, 0);
            chain.pass(300);
            chain.setVan(0, -200, 1);
            chain.pass(300);
            int[][] due = {{1, 1}, {99, 99}, {100, 100}, {300, 100}, {301, 99}, {599, -199}, {600, -200}};
            for (int[] row : due) {
                Checks.due("log(0, 1, " + row[0] + ", 0)", chain.log(0, 1, row[0], 0), row[1]);
            }
        });
    }

    private static void newObject() {
        Edge edge = new Edge("Promise 1");
        edge.test("Creates a chain without vans and pallets", "there is none to name", () -> {
            ColdChain chain = new ColdChain();
            Checks.due("count(0)", chain.count(0), 0);
            Checks.due("count(1)", chain.count(1), 0);
            Checks.due("van(0, 0)", chain.van(0, 0), Look.INVALID);
            Checks.due("pallet(0, 0)", chain.pallet(0, 0), Look.INVALID);
            Checks.due("claims(0)", chain.claims(0), 0);
        });
        edge.test("at the time 0", "of a new object", () -> Checks.due("count(2)", new ColdChain().count(2), 0));
        edge.test("with an empty text", "of a new object", () -> {
            ColdChain chain = new ColdChain();
            Checks.due("count(6)", chain.count(6), 0);
            Checks.due("clearText()", chain.clearText(), 0);
            Checks.due("runScript()", chain.runScript(), 0);
        });
    }

    private static void addVan() {
        Edge edge = new Edge("Promise 2");
        edge.test("Adds a van", "one more", () -> Checks.due("count(0)", Edge.closedVan().count(0), 1));
        edge.range("`setPoint`: -300 to 100", -300, 100, ColdChain::new, (c, n) -> c.addVan(n, 0), c -> c.van(0, 0));
        edge.range("`cooling`: 0 to 30", 0, 30, Edge::busy, (c, n) -> c.addVan(0, n), c -> c.van(2, 1));
        edge.test("Returns its number", "0, 1 and 2; again after an undo", () -> {
            ColdChain chain = new ColdChain();
            Checks.due("addVan", chain.addVan(0, 0), 0);
            Checks.due("addVan", chain.addVan(0, 0), 1);
            Checks.due("undo", chain.undo(), 1);
            Checks.due("addVan", chain.addVan(0, 0), 1);
            Checks.due("addVan", chain.addVan(0, 0), 2);
        });
        edge.refused("INVALID_ARGUMENT if an argument is out of range", "both wrong; with 3 vans", Look.INVALID,
            Edge::threeVans, c -> c.addVan(-301, 31), c -> c.addVan(101, 0), c -> c.addVan(0, -1));
        edge.refused("CAPACITY_EXCEEDED if there are 3 vans", "a fourth", Look.FULL, Edge::threeVans,
            c -> c.addVan(-300, 0), c -> c.addVan(100, 30));
    }

    private static void setNumber() {
        Edge edge = new Edge("Promise 3");
        edge.test("Sets a number", "that number alone", () -> {
            ColdChain chain = new ColdChain();
            chain.setNumber(1, 50);
            Checks.due("count(3)", chain.count(3), 200);
            Checks.due("count(4)", chain.count(4), 50);
            Checks.due("count(5)", chain.count(5), 3);
        });
        edge.names("`what`: 0 the outside temperature, 1 D, 2 M", 0, 2, Edge::busy, (c, n) -> c.setNumber(n, 20));
        edge.range("`value`: in its range", -200, 450, Edge::busy, (c, n) -> c.setNumber(0, n), c -> c.count(3));
        edge.range("`value`: in its range", 5, 100, Edge::busy, (c, n) -> c.setNumber(1, n), c -> c.count(4));
        edge.range("`value`: in its range", 1, 30, Edge::busy, (c, n) -> c.setNumber(2, n), c -> c.count(5));
        edge.test("Returns the previous number", "the first one, a negative one, the same one", () -> {
            ColdChain chain = new ColdChain();
            Checks.due("outside", chain.setNumber(0, -200), 200);
            Checks.due("outside", chain.setNumber(0, 0), -200);
            Checks.due("outside", chain.setNumber(0, 0), 0);
            Checks.due("D", chain.setNumber(1, 5), 30);
            Checks.due("M", chain.setNumber(2, 30), 3);
        });
        edge.refused("INVALID_ARGUMENT if what or value is out of range", "either, both", Look.INVALID, ColdChain::new,
            c -> c.setNumber(3, 30), c -> c.setNumber(-1, 30), c -> c.setNumber(3, 451), c -> c.setNumber(0, 451),
            c -> c.setNumber(1, 101), c -> c.setNumber(2, 0), c -> c.setNumber(Look.LOW, Look.HIGH));
    }

    private static void setVan() {
        Edge edge = new Edge("Promise 4");
        edge.test("Sets the set point and the cooling of a van", "of that van alone, not its temperatures", () -> {
            ColdChain chain = Edge.threeVans();
            chain.setVan(1, -300, 30);
            Checks.due("van(1, 0)", chain.van(1, 0), -300);
            Checks.due("van(1, 1)", chain.van(1, 1), 30);
            Checks.due("van(0, 0)", chain.van(0, 0), 0);
            Checks.due("van(2, 1)", chain.van(2, 1), 5);
            zonesAre("van 1", chain, 1, "10 10 10");
        });
        edge.names("`van`: a van", 0, 1, Edge::busy, (c, n) -> c.setVan(n, 1, 1));
        edge.range("`setPoint`: -300 to 100", -300, 100, Edge::busy, (c, n) -> c.setVan(0, n, 1), c -> c.van(0, 0));
        edge.range("`cooling`: 0 to 30", 0, 30, Edge::busy, (c, n) -> c.setVan(0, 1, n), c -> c.van(0, 1));
        edge.test("Returns the previous set point", "the lowest, the highest, 0", () -> {
            ColdChain chain = Look.withVan(-300, 0);
            Checks.due("lowest", chain.setVan(0, 100, 0), -300);
            Checks.due("highest", chain.setVan(0, 0, 0), 100);
            Checks.due("0", chain.setVan(0, 5, 0), 0);
        });
        edge.refused("INVALID_ARGUMENT if there is no such van or an argument is out of range", "without vans; all wrong",
            Look.INVALID, ColdChain::new, c -> c.setVan(0, 0, 0), c -> c.setVan(-1, -301, -1));
    }

    /** The first zone of the open van is full, another pallet is delivered, the other van has one. */
    private static ColdChain someLoaded() {
        ColdChain chain = Edge.openVan();
        chain.addVan(0, 5);
        chain.door(1, 1);
        chain.loadPallet(0, 1, 0, 0, 0);
        for (int k = 0; k < 3; k++) {
            chain.loadPallet(0, 0, 0, 0, 0);
        }
        chain.loadPallet(1, 2, 0, 0, 0);
        chain.deliver(0);
        return chain;
    }

    private static void door() {
        Edge edge = new Edge("Promise 8");
        edge.test("Opens or closes a door", "of that van alone", () -> {
            ColdChain chain = Edge.threeVans();
            chain.door(1, 1);
            Checks.due("van(0, 2)", chain.van(0, 2), 0);
            Checks.due("van(1, 2)", chain.van(1, 2), 1);
            chain.door(2, 1);
            chain.door(1, 0);
            Checks.due("van(1, 2)", chain.van(1, 2), 0);
            Checks.due("van(2, 2)", chain.van(2, 2), 1);
        });
        edge.names("`van`: a van", 0, 2, Edge::threeVans, (c, n) -> c.door(n, 1));
        edge.test("`open`: 1 or 0", "both are taken", () -> {
            ColdChain chain = Edge.closedVan();
            Checks.due("door(0, 1)", chain.door(0, 1), 0);
            Checks.due("van(0, 2)", chain.van(0, 2), 1);
            Checks.due("door(0, 0)", chain.door(0, 0), 0);
            Checks.due("van(0, 2)", chain.van(0, 2), 0);
        });
        for (int open : new int[] {-1, 2, Look.LOW, Look.HIGH}) {
            edge.refused("`open`: 1 or 0", open + " is refused", Look.INVALID, Edge::busy,
                c -> c.door(0, open), c -> c.door(1, open));
        }
        edge.test("Returns the number of pallets that are in the van", "none, some, nine, not the delivered ones", () -> {
            Checks.due("none", Edge.closedVan().door(0, 1), 0);
            Checks.due("three", someLoaded().door(0, 0), 3);
            Checks.due("one", someLoaded().door(1, 0), 1);
            ColdChain chain = Edge.openVan();
            for (int k = 0; k < 9; k++) {
                chain.loadPallet(0, k % 3, 0, 0, 0);
            }
            Checks.due("nine", chain.door(0, 0), 9);
            Checks.due("nine", chain.door(0, 1), 9);
        });
        edge.refused("INVALID_ARGUMENT if there is no such van or open is out of range", "without vans; both wrong",
            Look.INVALID, ColdChain::new, c -> c.door(0, 1), c -> c.door(0, 0), c -> c.door(-1, 2));
        edge.refused("ILLEGAL_STATE if it is so already", "closed at first", Look.ILLEGAL, Edge::threeVans,
            c -> c.door(0, 0), c -> c.door(2, 0));
        edge.refused("ILLEGAL_STATE if it is so already", "open already", Look.ILLEGAL, Edge::busy, c -> c.door(0, 1));
    }

    private static void pass() {
        Edge edge = new Edge("Promise 9");
        edge.test("Lets minutes pass", "as many at once as one by one", () -> {
            ColdChain one = Edge.openVan();
            ColdChain all = Edge.openVan();
            for (int k = 0; k < 7; k++) {
                one.pass(1);
            }
            all.pass(7);
            zonesAre("seven minutes", all, 0, Look.zones(one, 0, 0));
            Checks.due("count(2)", all.count(2), 7);
        });
        edge.range("`minutes`: 1 to 300", 1, 300, Edge::openVan, ColdChain::pass, c -> c.count(2));
        String found = "Returns the number of probes that were found in them";
        edge.test(found, "none, one in each van", () -> {
            ColdChain chain = Edge.threeVans();
            for (int van = 0; van < 3; van++) {
                chain.setProbe(van, van, 2, 400);
            }
            Checks.due("two minutes", chain.pass(2), 0);
            Checks.due("the third", chain.pass(1), 3);
        });
        edge.test(found, "the ones that are found already are not counted again", () -> {
            ColdChain chain = Edge.closedVan();
            chain.setProbe(0, 2, 2, 400);
            Checks.due("pass(3)", chain.pass(3), 1);
            Checks.due("pass(300)", chain.pass(300), 0);
        });
        edge.test(found, "one that is found already, not odd for a minute, then odd for the patience", () -> {
            ColdChain chain = Edge.closedVan();
            chain.setProbe(0, 2, 2, 400);
            Checks.due("pass(3)", chain.pass(3), 1);
            chain.setProbe(0, 2, 0, 0);
            Checks.due("not odd", chain.pass(1), 0);
            chain.setProbe(0, 2, 2, 400);
            Checks.due("odd again", chain.pass(9), 0);
            Checks.due("count(8)", chain.count(8), 1);
        });
        edge.test(found, "one that is found already, with a greater patience, is not counted when that is over", () -> {
            ColdChain chain = Edge.closedVan();
            chain.setProbe(0, 2, 2, 400);
            Checks.due("pass(3)", chain.pass(3), 1);
            chain.setNumber(2, 6);
            Checks.due("pass(9)", chain.pass(9), 0);
        });
        edge.test(found, "one that is found again after its repair", () -> {
            ColdChain chain = Edge.closedVan();
            chain.setProbe(0, 2, 2, 400);
            chain.pass(3);
            chain.repair(0, 2);
            chain.setProbe(0, 2, 2, 400);
            Checks.due("pass(4)", chain.pass(4), 1);
        });
        edge.refused("INVALID_ARGUMENT if minutes is out of range", "at 600 too", Look.INVALID, () -> Edge.at(600),
            c -> c.pass(0), c -> c.pass(-1), c -> c.pass(301), c -> c.pass(Look.LOW), c -> c.pass(Look.HIGH));
        edge.test("CAPACITY_EXCEEDED if the time would be greater than 600", "600 itself is not", () -> {
            Checks.due("1 at 599", Edge.at(599).pass(1), 0);
            Checks.due("300 at 300", Edge.at(300).pass(300), 0);
        });
        edge.refused("CAPACITY_EXCEEDED if the time would be greater than 600", "by one, by 300", Look.FULL,
            () -> Edge.at(600), c -> c.pass(1), c -> c.pass(300));
        edge.refused("CAPACITY_EXCEEDED if the time would be greater than 600", "by one from 301", Look.FULL,
            () -> Edge.at(301), c -> c.pass(300));
        edge.refused("CAPACITY_EXCEEDED if the time would be greater than 600", "by one from 599", Look.FULL,
            () -> Edge.at(599), c -> c.pass(2));
    }
}
