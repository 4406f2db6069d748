/** Promises 15 to 18 and 20 to 23. */
final class LookingTests {
    private LookingTests() {
    }

    static void run() {
        Checks.test("15: count", LookingTests::counts);
        Checks.test("16: van", LookingTests::vans);
        Checks.test("17: zone", LookingTests::zones);
        Checks.test("18: pallet", LookingTests::pallets);
        Checks.test("20: log", LookingTests::logs);
        Checks.test("20: log refuses", LookingTests::refusesLogs);
        Checks.test("21: warm", LookingTests::warms);
        Checks.test("21: warm refuses", LookingTests::refusesWarms);
        Checks.test("22: minutesLeft", LookingTests::minutesLeft);
        Checks.test("22: minutesLeft looks 300 minutes ahead", LookingTests::farMinutes);
        Checks.test("22: minutesLeft refuses", LookingTests::refusesMinutes);
        Checks.test("23: longestOpen", LookingTests::longestOpen);
        Checks.test("23: longestOpen with warmth that comes late", LookingTests::longestOpenLate);
        Checks.test("23: longestOpen where less is worse", LookingTests::longestOpenNotForLess);
        Checks.test("23: longestOpen refuses", LookingTests::refusesLongestOpen);
        Checks.test("15 to 23: looking changes nothing", LookingTests::changesNothing);
    }

    private static void counts() {
        ColdChain chain = Look.withOpenVan(0, 5);
        chain.addVan(0, 5);
        chain.loadPallet(0, 0, 0, 0, 0);
        chain.setNumber(0, -7);
        chain.setNumber(1, 8);
        chain.setNumber(2, 1);
        chain.setProbe(1, 1, 2, 100);
        chain.pass(4);
        Look.type(chain, "abc");
        int[] due = {2, 1, 4, -7, 8, 1, 3, 6, 1};
        for (int what = 0; what < due.length; what++) {
            Checks.due("count(" + what + ")", chain.count(what), due[what]);
        }
        for (int what : new int[] {-1, 9, Look.LOW, Look.HIGH}) {
            Edge.refuse("count(" + what + ")", Look.INVALID, Edge::busy, c -> c.count(what));
        }
    }

    private static void vans() {
        ColdChain chain = Look.withOpenVan(-20, 5);
        chain.addVan(30, 6);
        chain.loadPallet(0, 0, 0, 0, 0);
        chain.loadPallet(0, 1, 0, 0, 0);
        chain.loadPallet(0, 2, 0, 0, 0);
        chain.deliver(1);
        int[] first = {-20, 5, 1, 5};
        int[] second = {30, 6, 0, 0};
        for (int what = 0; what <= 3; what++) {
            Checks.due("van(0, " + what + ")", chain.van(0, what), first[what]);
            Checks.due("van(1, " + what + ")", chain.van(1, what), second[what]);
        }
        int[][] wrong = {{-1, 0}, {2, 0}, {3, 0}, {0, -1}, {0, 4}, {Look.HIGH, 0}, {0, Look.LOW}};
        for (int[] row : wrong) {
            Edge.refuse("van", Look.INVALID, Edge::busy, c -> c.van(row[0], row[1]));
        }
    }

    private static void zones() {
        ColdChain chain = Look.withVan(-20, 5);
        chain.setProbe(0, 1, 1, 35);
        chain.setNumber(2, 2);
        chain.pass(2);
        int[] right = {-20, -20, -20, 0, 0, 0};
        int[] shifted = {-20, 15, -20, 1, 1, 2};
        for (int what = 0; what <= 5; what++) {
            Checks.due("zone(0, 0, " + what + ")", chain.zone(0, 0, what), right[what]);
            Checks.due("zone(0, 1, " + what + ")", chain.zone(0, 1, what), shifted[what]);
            Checks.due("zone(0, 2, " + what + ")", chain.zone(0, 2, what), right[what]);
        }
        int[][] wrong = {{-1, 0, 0}, {1, 0, 0}, {0, -1, 0}, {0, 3, 0}, {0, 0, -1}, {0, 0, 6},
            {Look.HIGH, Look.HIGH, Look.HIGH}};
        for (int[] row : wrong) {
            Edge.refuse("zone", Look.INVALID, Edge::openVan, c -> c.zone(row[0], row[1], row[2]));
        }
    }

    private static void pallets() {
        ColdChain chain = Look.withOpenVan(0, 5);
        chain.loadPallet(0, 2, -1, 1, 50);
        chain.pass(2);
        chain.door(0, 0);
        chain.pass(1);
        chain.door(0, 1);
        chain.deliver(0);
        chain.detour(1, 7);
        int[] due = {0, 2, -1, 1, 50, 3, 2, 1, 3, 1, 7};
        for (int what = 0; what < due.length; what++) {
            Checks.due("pallet(0, " + what + ")", chain.pallet(0, what), due[what]);
        }
        int[][] wrong = {{-1, 0}, {1, 0}, {12, 0}, {0, -1}, {0, 11}, {Look.LOW, 0}, {0, Look.HIGH}};
        for (int[] row : wrong) {
            Edge.refuse("pallet", Look.INVALID, () -> PalletTests.rejected(1), c -> c.pallet(row[0], row[1]));
        }
    }

    private static void logs() {
        ColdChain chain = Look.withOpenVan(0, 5);
        chain.setProbe(0, 2, 1, 9);
        chain.pass(2);
        chain.addVan(-50, 0);
        chain.pass(1);
        Checks.due("log(0, 2, 1, 0)", chain.log(0, 2, 1, 0), 23);
        Checks.due("log(0, 2, 1, 1)", chain.log(0, 2, 1, 1), 32);
        Checks.due("log(0, 2, 2, 0)", chain.log(0, 2, 2, 0), 42);
        Checks.due("log(0, 1, 2, 0)", chain.log(0, 1, 2, 0), 25);
        Checks.due("log(0, 1, 2, 1)", chain.log(0, 1, 2, 1), 25);
        Checks.due("log(0, 0, 2, 0)", chain.log(0, 0, 2, 0), 12);
        Checks.due("after now", chain.log(0, 0, 4, 0), Look.NONE);
        Checks.due("far after now", chain.log(0, 0, Look.HIGH, 1), Look.NONE);
        Checks.due("before the van", chain.log(1, 0, 1, 0), Look.NONE);
        Checks.due("when the van was added", chain.log(1, 0, 2, 0), Look.NONE);
        Checks.due("log(1, 0, 3, 0)", chain.log(1, 0, 3, 0), -50);
        Checks.due("log(1, 2, 3, 1)", chain.log(1, 2, 3, 1), -50);
        chain.pass(297);
        chain.pass(300);
        Checks.due("the last entry", chain.log(1, 2, 600, 1), -50);
        Checks.due("after the last entry", chain.log(1, 2, 601, 1), Look.NONE);
    }

    private static void refusesLogs() {
        int[][] wrong = {{-1, 0, 1, 0}, {1, 0, 1, 0}, {0, -1, 1, 0}, {0, 3, 1, 0}, {0, 0, 0, 0}, {0, 0, -1, 0},
            {0, 0, Look.LOW, 0}, {0, 0, 1, -1}, {0, 0, 1, 2}, {0, 0, 6, 2}, {1, 0, 6, 0}};
        for (int[] row : wrong) {
            Edge.refuse("log", Look.INVALID, () -> Edge.at(5), c -> c.log(row[0], row[1], row[2], row[3]));
        }
    }

    private static void warms() {
        ColdChain chain = Look.withOpenVan(0, 5);
        chain.setProbe(0, 2, 1, 9);
        chain.pass(2);
        chain.addVan(100, 0);
        chain.door(0, 0);
        chain.pass(1);
        // zone 2: 23 42 36, told 32 51 45
        Checks.due("above 23", chain.warm(0, 2, 23, 0, 3, 0), 2);
        Checks.due("above 22", chain.warm(0, 2, 22, 0, 3, 0), 3);
        Checks.due("above 36", chain.warm(0, 2, 36, 0, 3, 0), 1);
        Checks.due("above 36, told", chain.warm(0, 2, 36, 0, 3, 1), 2);
        Checks.due("from 1", chain.warm(0, 2, 22, 1, 3, 0), 2);
        Checks.due("to 2", chain.warm(0, 2, 22, 0, 2, 0), 2);
        Checks.due("from 1 to 1", chain.warm(0, 2, 22, 1, 1, 0), 0);
        Checks.due("from 0 to 0", chain.warm(0, 2, 22, 0, 0, 0), 0);
        Checks.due("to far", chain.warm(0, 2, 22, 0, Look.HIGH, 0), 3);
        Checks.due("from far to far", chain.warm(0, 2, 22, Look.HIGH, Look.HIGH, 0), 0);
        Checks.due("from far", chain.warm(0, 2, 22, 600, Look.HIGH, 0), 0);
        Checks.due("the second van", chain.warm(1, 0, -300, 0, 600, 0), 1);
        Checks.due("the second van earlier", chain.warm(1, 0, -300, 0, 2, 0), 0);
        Checks.due("the second van above 99", chain.warm(1, 0, 99, 2, 3, 1), 1);
        Checks.due("the second van above 100", chain.warm(1, 0, 100, 2, 3, 1), 0);
        Checks.due("limit 300", chain.warm(0, 2, 300, 0, 600, 0), 0);
    }

    private static void refusesWarms() {
        int[][] wrong = {{-1, 0, 0, 0, 1, 0}, {1, 0, 0, 0, 1, 0}, {0, -1, 0, 0, 1, 0}, {0, 3, 0, 0, 1, 0},
            {0, 0, -301, 0, 1, 0}, {0, 0, 301, 0, 1, 0}, {0, 0, 0, -1, 1, 0}, {0, 0, 0, 1, 0, 0},
            {0, 0, 0, 0, -1, 0}, {0, 0, 0, 0, 1, -1}, {0, 0, 0, 0, 1, 2}, {0, 0, 0, Look.LOW, Look.HIGH, 0},
            {0, 0, 0, Look.HIGH, Look.LOW, 0}};
        for (int[] row : wrong) {
            Edge.refuse("warm", Look.INVALID, Edge::closedVan,
                c -> c.warm(row[0], row[1], row[2], row[3], row[4], row[5]));
        }
    }

    private static void minutesLeft() {
        ColdChain chain = Look.withOpenVan(0, 5);
        // zone 2 open: 23, 42, and on
        chain.loadPallet(0, 2, 22, 0, 0);
        chain.loadPallet(0, 2, 23, 0, 0);
        chain.loadPallet(0, 2, 23, 3, 0);
        chain.loadPallet(0, 0, 200, 0, 0);
        Checks.due("minutesLeft(0)", chain.minutesLeft(0), 1);
        Checks.due("minutesLeft(1)", chain.minutesLeft(1), 2);
        Checks.due("minutesLeft(2)", chain.minutesLeft(2), 5);
        Checks.due("minutesLeft(3)", chain.minutesLeft(3), Look.NONE);
        chain.pass(3);
        Checks.due("minutesLeft(0)", chain.minutesLeft(0), 0);
        Checks.due("minutesLeft(1)", chain.minutesLeft(1), 0);
        Checks.due("minutesLeft(2)", chain.minutesLeft(2), 2);
        chain.door(0, 0);
        chain.setVan(0, 0, 30);
        Checks.due("closed and cooled", chain.minutesLeft(2), Look.NONE);
        Checks.due("count(2)", chain.count(2), 3);
        chain.addVan(50, 0);
        chain.door(1, 1);
        chain.loadPallet(1, 2, 49, 3, 0);
        Checks.due("in another van", chain.minutesLeft(4), 4);
    }

    private static void farMinutes() {
        ColdChain chain = Look.withOpenVan(0, 5);
        chain.loadPallet(0, 0, -300, 299, 0);
        chain.loadPallet(0, 0, -300, 300, 0);
        Checks.due("300", chain.minutesLeft(0), 300);
        Checks.due("301", chain.minutesLeft(1), Look.NONE);
        chain.pass(1);
        Checks.due("300", chain.minutesLeft(1), 300);
        chain.pass(300);
        Checks.due("now", chain.minutesLeft(1), 0);
        chain.loadPallet(0, 1, -300, 299, 0);
        chain.pass(299);
        Checks.due("at the time 600", chain.minutesLeft(2), 1);
        chain.loadPallet(0, 1, -300, 299, 0);
        Checks.due("beyond the time 600", chain.minutesLeft(3), 300);
        Checks.due("log", chain.log(0, 0, 601, 0), Look.NONE);
    }

    private static void refusesMinutes() {
        for (int pallet : new int[] {-1, 1, 12, Look.LOW, Look.HIGH}) {
            Edge.refuse("minutesLeft", Look.INVALID, () -> PalletTests.rejected(1), c -> c.minutesLeft(pallet));
        }
        Edge.refuse("minutesLeft", Look.ILLEGAL, () -> PalletTests.rejected(1), c -> c.minutesLeft(0));
    }

    private static void longestOpen() {
        ColdChain chain = Look.withVan(0, 5);
        chain.addVan(0, 5);
        Checks.due("without pallets", chain.longestOpen(0), 60);
        chain.door(0, 1);
        // open: 23, 42; closed after one: 18 or less
        chain.loadPallet(0, 2, 23, 0, 0);
        Checks.due("one minute", chain.longestOpen(0), 1);
        Checks.due("the other van", chain.longestOpen(1), 60);
        chain.door(0, 0);
        Checks.due("one minute from closed", chain.longestOpen(0), 1);
        chain.door(0, 1);
        chain.loadPallet(0, 2, 22, 0, 0);
        Checks.due("none at all", chain.longestOpen(0), 0);
        chain.loadPallet(0, 1, -1, 59, 0);
        Checks.due("too warm closed", chain.longestOpen(0), Look.NONE);
        chain.deliver(2);
        Checks.due("without it", chain.longestOpen(0), 0);
        Checks.due("van(0, 2)", chain.van(0, 2), 1);
    }

    private static void longestOpenLate() {
        ColdChain chain = Look.withOpenVan(0, 0);
        chain.setNumber(0, 0);
        chain.loadPallet(0, 0, -1, 60, 0);
        Checks.due("60 told minutes, allowance 60", chain.longestOpen(0), 60);
        chain.loadPallet(0, 0, -1, 59, 0);
        Checks.due("60 told minutes, allowance 59", chain.longestOpen(0), Look.NONE);
        ColdChain late = Look.withOpenVan(0, 0);
        late.pass(299);
        late.pass(300);
        late.loadPallet(0, 0, 300, 0, 0);
        Checks.due("beyond the time 600", late.longestOpen(0), 60);
        late.loadPallet(0, 0, -300, 59, 0);
        Checks.due("too warm beyond the time 600", late.longestOpen(0), Look.NONE);
    }

    /** It is colder outside than inside: the pallet needs open minutes to become cold. */
    private static void longestOpenNotForLess() {
        ColdChain chain = Look.withOpenVan(50, 0);
        chain.setNumber(0, -200);
        chain.loadPallet(0, 2, 49, 30, 0);
        Checks.due("the longest is the coldest", chain.longestOpen(0), 60);
        chain.setVan(0, -10, 30);
        chain.loadPallet(0, 2, -60, 58, 0);
        Checks.due("still", chain.longestOpen(0), 60);
        chain.setVan(0, 50, 0);
        Checks.due("still", chain.longestOpen(0), 60);
        chain.loadPallet(0, 2, -300, 59, 0);
        Checks.due("never", chain.longestOpen(0), Look.NONE);
    }

    private static void refusesLongestOpen() {
        for (int van : new int[] {-1, 1, 3, Look.LOW, Look.HIGH}) {
            Edge.refuse("longestOpen", Look.INVALID, Edge::closedVan, c -> c.longestOpen(van));
        }
    }

    private static ColdChain looked() {
        ColdChain chain = PalletTests.rejected(5, 6);
        chain.loadPallet(0, 1, 20, 30, 0);
        chain.setProbe(0, 1, 1, 100);
        chain.pass(2);
        Look.type(chain, "w1;");
        return chain;
    }

    private static void changesNothing() {
        ColdChain chain = looked();
        String before = Edge.numbers(chain);
        Edge.ahead(chain);
        Checks.isTrue("all is told alike twice", before.equals(Edge.numbers(chain)));
        ColdChain other = looked();
        String logged = Edge.logged(other);
        Edge.numbers(other);
        Checks.isTrue("the log is told alike twice", logged.equals(Edge.logged(other)));
    }
}
