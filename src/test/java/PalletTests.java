/** Promises 7, 8, 10, 11 and 19, and what a minute does to pallets (9). */
final class PalletTests {
    private PalletTests() {
    }

    static void run() {
        Checks.test("7: loadPallet numbers the pallets", PalletTests::loads);
        Checks.test("7: loadPallet refuses wrong arguments", PalletTests::refusesLoads);
        Checks.test("7: three pallets in a zone, twelve in all", PalletTests::room);
        Checks.test("8: door", PalletTests::doors);
        Checks.test("8: door refuses", PalletTests::refusesDoors);
        Checks.test("9: warm minutes", PalletTests::warmMinutes);
        Checks.test("9: told minutes go by the told temperature", PalletTests::toldMinutes);
        Checks.test("9: delivered pallets have no more minutes", PalletTests::deliveredOnesRest);
        Checks.test("10: deliver", PalletTests::delivers);
        Checks.test("10: deliver refuses", PalletTests::refusesDeliveries);
        Checks.test("11: detour shares by values", PalletTests::sharesByValues);
        Checks.test("11: detour without values", PalletTests::sharesEvenly);
        Checks.test("11: detour of some pallets", PalletTests::someDetours);
        Checks.test("11: detour refuses", PalletTests::refusesDetours);
        Checks.test("18: the causes door and cooling", PalletTests::causes);
        Checks.test("18: the cause probe", PalletTests::probeCauses);
        Checks.test("19: claims", PalletTests::claims);
        Checks.test("19: claims with detours", PalletTests::claimsWithDetours);
        Checks.test("19: claims refuses", PalletTests::refusesClaims);
    }

    /** Pallets with these values, all rejected, in the zones 0, 1, 2, 0, and so on. */
    static ColdChain rejected(int... values) {
        ColdChain chain = Look.withOpenVan(0, 5);
        for (int k = 0; k < values.length; k++) {
            chain.loadPallet(0, k % 3, -300, 0, values[k]);
        }
        chain.pass(1);
        for (int k = 0; k < values.length; k++) {
            Checks.due("deliver(" + k + ")", chain.deliver(k), 2);
        }
        return chain;
    }

    private static String parts(ColdChain chain) {
        StringBuilder parts = new StringBuilder();
        for (int k = 0; k < chain.count(1); k++) {
            parts.append(k == 0 ? "" : " ").append(chain.pallet(k, 10));
        }
        return parts.toString();
    }

    private static void loads() {
        ColdChain chain = Look.withVan(0, 5);
        chain.addVan(0, 5);
        chain.door(1, 1);
        Checks.due("loadPallet(1, 2, -300, 600, 9999)", chain.loadPallet(1, 2, -300, 600, 9999), 0);
        Checks.due("loadPallet(1, 0, 300, 0, 0)", chain.loadPallet(1, 0, 300, 0, 0), 1);
        int[] first = {1, 2, -300, 600, 9999, 0, 0, 0, 0, 0, 0};
        int[] second = {1, 0, 300, 0, 0, 0, 0, 0, 0, 0, 0};
        for (int what = 0; what <= 10; what++) {
            Checks.due("pallet(0, " + what + ")", chain.pallet(0, what), first[what]);
            Checks.due("pallet(1, " + what + ")", chain.pallet(1, what), second[what]);
        }
        Checks.due("count(1)", chain.count(1), 2);
        Checks.due("van(1, 3)", chain.van(1, 3), 3);
        Checks.due("van(0, 3)", chain.van(0, 3), 0);
    }

    private static void refusesLoads() {
        int[][] wrong = {{1, 0, 0, 0, 0}, {-1, 0, 0, 0, 0}, {0, -1, 0, 0, 0}, {0, 3, 0, 0, 0}, {0, 0, -301, 0, 0},
            {0, 0, 301, 0, 0}, {0, 0, 0, -1, 0}, {0, 0, 0, 601, 0}, {0, 0, 0, 0, -1}, {0, 0, 0, 0, 10000},
            {Look.HIGH, Look.LOW, Look.HIGH, Look.LOW, Look.HIGH}};
        for (int[] row : wrong) {
            Edge.refuse("loadPallet", Look.INVALID, Edge::openVan,
                c -> c.loadPallet(row[0], row[1], row[2], row[3], row[4]));
        }
        Edge.refuse("closed", Look.ILLEGAL, Edge::closedVan, c -> c.loadPallet(0, 0, 0, 0, 0));
        Edge.refuse("closed and wrong", Look.INVALID, Edge::closedVan, c -> c.loadPallet(0, 0, 0, 601, 0));
    }

    private static void room() {
        ColdChain chain = Look.withOpenVan(0, 5);
        chain.addVan(0, 5);
        for (int k = 0; k < 9; k++) {
            Checks.due("loadPallet", chain.loadPallet(0, k / 3, 0, 0, 0), k);
        }
        for (int zone = 0; zone < 3; zone++) {
            Checks.due("a full zone", chain.loadPallet(0, zone, 0, 0, 0), Look.FULL);
        }
        chain.deliver(4);
        Checks.due("in the place of a delivered one", chain.loadPallet(0, 1, 0, 0, 0), 9);
        Checks.due("full again", chain.loadPallet(0, 1, 0, 0, 0), Look.FULL);
        chain.door(0, 0);
        Checks.due("full and closed", chain.loadPallet(0, 1, 0, 0, 0), Look.ILLEGAL);
        chain.door(1, 1);
        Checks.due("the eleventh", chain.loadPallet(1, 1, 0, 0, 0), 10);
        Checks.due("the twelfth", chain.loadPallet(1, 1, 0, 0, 0), 11);
        Checks.due("a thirteenth", chain.loadPallet(1, 2, 0, 0, 0), Look.FULL);
        chain.deliver(11);
        Checks.due("a thirteenth after a delivery", chain.loadPallet(1, 2, 0, 0, 0), Look.FULL);
        Checks.due("van(0, 3)", chain.van(0, 3), 0x3EF);
        Checks.due("van(1, 3)", chain.van(1, 3), 0x400);
    }

    private static void doors() {
        ColdChain chain = Look.withVan(0, 5);
        chain.addVan(0, 5);
        Checks.due("door(0, 1)", chain.door(0, 1), 0);
        Checks.due("van(0, 2)", chain.van(0, 2), 1);
        Checks.due("van(1, 2)", chain.van(1, 2), 0);
        chain.loadPallet(0, 0, 0, 0, 0);
        chain.loadPallet(0, 2, 0, 0, 0);
        chain.door(1, 1);
        chain.loadPallet(1, 2, 0, 0, 0);
        Checks.due("door(0, 0)", chain.door(0, 0), 2);
        Checks.due("van(0, 2)", chain.van(0, 2), 0);
        Checks.due("door(0, 1)", chain.door(0, 1), 2);
        chain.deliver(0);
        Checks.due("door(0, 0)", chain.door(0, 0), 1);
        Checks.due("door(1, 0)", chain.door(1, 0), 1);
    }

    private static void refusesDoors() {
        int[][] wrong = {{1, 1}, {-1, 1}, {0, 2}, {0, -1}, {Look.HIGH, 0}, {0, Look.LOW}};
        for (int[] row : wrong) {
            Edge.refuse("door", Look.INVALID, Edge::closedVan, c -> c.door(row[0], row[1]));
        }
        Edge.refuse("closed already", Look.ILLEGAL, Edge::closedVan, c -> c.door(0, 0));
        Edge.refuse("open already", Look.ILLEGAL, Edge::openVan, c -> c.door(0, 1));
    }

    /** Zone 2 has 23, 42 (open) and 36 (closed) in the first three minutes: see VanTests. */
    private static ColdChain threeMinutes(int limit, int allowance, int value) {
        ColdChain chain = Look.withOpenVan(0, 5);
        chain.loadPallet(0, 2, limit, allowance, value);
        chain.pass(2);
        chain.door(0, 0);
        chain.pass(1);
        chain.door(0, 1);
        return chain;
    }

    private static String minutes(ColdChain chain, int pallet) {
        return chain.pallet(pallet, 6) + " " + chain.pallet(pallet, 7) + " " + chain.pallet(pallet, 8);
    }

    private static void warmMinutes() {
        Checks.isTrue("limit 22", minutes(threeMinutes(22, 0, 0), 0).equals("2 1 3"));
        Checks.isTrue("limit 23", minutes(threeMinutes(23, 0, 0), 0).equals("1 1 2"));
        Checks.isTrue("limit 35", minutes(threeMinutes(35, 0, 0), 0).equals("1 1 2"));
        Checks.isTrue("limit 36", minutes(threeMinutes(36, 0, 0), 0).equals("1 0 1"));
        Checks.isTrue("limit 42", minutes(threeMinutes(42, 0, 0), 0).equals("0 0 0"));
    }

    private static void toldMinutes() {
        ColdChain chain = Look.withVan(0, 5);
        chain.addVan(0, 5);
        chain.door(0, 1);
        chain.loadPallet(0, 1, 50, 0, 0);
        chain.loadPallet(0, 0, 50, 0, 0);
        chain.setNumber(0, 0);
        chain.setProbe(0, 1, 1, 51);
        chain.setProbe(1, 0, 1, 51);
        chain.pass(2);
        Checks.isTrue("told, not warm", minutes(chain, 0).equals("0 0 2"));
        // In the third minute the probe is found ahead of the counting.
        chain.pass(1);
        Checks.isTrue("not told when found", minutes(chain, 0).equals("0 0 2"));
        Checks.isTrue("another zone", minutes(chain, 1).equals("0 0 0"));
        chain.setProbe(0, 0, 2, 450);
        chain.setProbe(0, 2, 2, 450);
        chain.pass(1);
        Checks.isTrue("told by the neighbors", minutes(chain, 0).equals("0 0 3"));
        Checks.isTrue("told by its own probe", minutes(chain, 1).equals("0 0 1"));
    }

    private static void deliveredOnesRest() {
        ColdChain chain = threeMinutes(23, 5, 0);
        chain.loadPallet(0, 2, -300, 0, 0);
        chain.deliver(0);
        chain.pass(4);
        Checks.isTrue("delivered", minutes(chain, 0).equals("1 1 2"));
        Checks.isTrue("in the van", minutes(chain, 1).equals("4 0 4"));
        Checks.due("zone of the delivered one", chain.pallet(0, 1), 2);
        Checks.due("van(0, 3)", chain.van(0, 3), 2);
    }

    private static void delivers() {
        ColdChain accepted = threeMinutes(23, 2, 0);
        Checks.due("2 told minutes, allowance 2", accepted.deliver(0), 1);
        Checks.due("state", accepted.pallet(0, 5), 1);
        Checks.due("van(0, 3)", accepted.van(0, 3), 0);
        ColdChain rejected = threeMinutes(23, 1, 0);
        Checks.due("2 told minutes, allowance 1", rejected.deliver(0), 2);
        Checks.due("state", rejected.pallet(0, 5), 2);
        Checks.due("van(0, 3)", rejected.van(0, 3), 0);
    }

    private static void refusesDeliveries() {
        for (int pallet : new int[] {-1, 1, 12, Look.LOW, Look.HIGH}) {
            Edge.refuse("deliver(" + pallet + ")", Look.INVALID, () -> threeMinutes(23, 1, 0), c -> c.deliver(pallet));
        }
        ColdChain chain = threeMinutes(23, 1, 0);
        chain.door(0, 0);
        Checks.due("closed", chain.deliver(0), Look.ILLEGAL);
        chain.door(0, 1);
        chain.deliver(0);
        Checks.due("delivered already", chain.deliver(0), Look.ILLEGAL);
        chain.detour(1, 0);
        Checks.due("brought back", chain.deliver(0), Look.ILLEGAL);
    }

    private static void sharesByValues() {
        ColdChain chain = rejected(10, 0, 5);
        Checks.due("detour(7, 100)", chain.detour(7, 100), 67);
        Checks.isTrue("66, 0, 33 and 1 left: " + parts(chain), parts(chain).equals("67 0 33"));
        Checks.due("state", chain.pallet(1, 5), 3);
        chain = rejected(0, 1, 1);
        Checks.due("detour(7, 1)", chain.detour(7, 1), 1);
        Checks.isTrue("1 left: " + parts(chain), parts(chain).equals("1 0 0"));
        chain = rejected(0, 1);
        Checks.due("detour(3, 10)", chain.detour(3, 10), 10);
        Checks.isTrue("all to the only one with a value: " + parts(chain), parts(chain).equals("0 10"));
        chain = rejected(7, 7, 7);
        Checks.due("detour(7, 8)", chain.detour(7, 8), 3);
        Checks.isTrue("2 left: " + parts(chain), parts(chain).equals("3 3 2"));
        chain = rejected(1, 9999, 3);
        Checks.due("detour(7, 9999)", chain.detour(7, 9999), 9996);
        Checks.isTrue("0, 9995, 2 and 2 left: " + parts(chain), parts(chain).equals("1 9996 2"));
        chain = rejected(9999, 9999, 9999, 9999, 9999, 9999, 9999, 9999, 9999);
        Checks.due("detour(511, 9999)", chain.detour(511, 9999), 1111);
        chain = rejected(4);
        Checks.due("detour(1, 0)", chain.detour(1, 0), 0);
        Checks.due("state without a cost", chain.pallet(0, 5), 3);
    }

    private static void sharesEvenly() {
        ColdChain chain = rejected(0, 0, 0);
        Checks.due("detour(7, 8)", chain.detour(7, 8), 3);
        Checks.isTrue("2 left: " + parts(chain), parts(chain).equals("3 3 2"));
    }

    private static void someDetours() {
        ColdChain chain = rejected(10, 20, 30, 40);
        Checks.due("detour(10, 100)", chain.detour(10, 100), 66);
        Checks.isTrue("the pallets 1 and 3: " + parts(chain), parts(chain).equals("0 34 0 66"));
        Checks.due("state 0", chain.pallet(0, 5), 2);
        Checks.due("state 1", chain.pallet(1, 5), 3);
        Checks.due("detour(5, 9)", chain.detour(5, 9), 6);
    }

    /** The pallets 0 and 1 are rejected, 2 is accepted, 3 in the van. */
    private static ColdChain inEachState() {
        ColdChain chain = rejected(1, 2);
        chain.loadPallet(0, 0, 300, 0, 0);
        chain.deliver(2);
        chain.loadPallet(0, 0, 300, 0, 0);
        return chain;
    }

    private static void refusesDetours() {
        Edge.refuse("without pallets", Look.INVALID, ColdChain::new, c -> c.detour(1, 0));
        int[][] wrong = {{0, 0}, {16, 0}, {17, 0}, {-1, 0}, {Look.LOW, 0}, {Look.LOW + 1, 0}, {Look.HIGH, 0},
            {1, -1}, {1, 10000}, {4, 10000}};
        for (int[] row : wrong) {
            Edge.refuse("detour", Look.INVALID, PalletTests::inEachState, c -> c.detour(row[0], row[1]));
        }
        for (int set : new int[] {4, 8, 5, 9, 12, 15}) {
            Edge.refuse("detour(" + set + ", 0)", Look.ILLEGAL, PalletTests::inEachState, c -> c.detour(set, 0));
        }
        ColdChain chain = inEachState();
        Checks.due("detour(3, 9999)", chain.detour(3, 9999), 6666);
        Checks.due("twice", chain.detour(1, 0), Look.ILLEGAL);
    }

    private static void causes() {
        ColdChain chain = threeMinutes(23, 1, 10);
        Checks.due("in the van", chain.pallet(0, 9), 0);
        chain.deliver(0);
        Checks.due("as many open ones as closed ones", chain.pallet(0, 9), 1);
        chain.detour(1, 10);
        Checks.due("brought back", chain.pallet(0, 9), 1);
        ColdChain accepted = threeMinutes(23, 2, 10);
        accepted.deliver(0);
        Checks.due("accepted", accepted.pallet(0, 9), 0);
        ColdChain closed = Look.withOpenVan(10, 0);
        closed.loadPallet(0, 0, 9, 2, 10);
        closed.pass(1);
        closed.door(0, 0);
        closed.pass(2);
        closed.door(0, 1);
        Checks.due("deliver(0)", closed.deliver(0), 2);
        Checks.due("more closed ones", closed.pallet(0, 9), 2);
    }

    private static void probeCauses() {
        ColdChain probe = Look.withOpenVan(0, 5);
        probe.setNumber(0, 0);
        probe.loadPallet(0, 0, -1, 2, 10);
        probe.loadPallet(0, 1, 50, 1, 10);
        probe.setProbe(0, 1, 2, 60);
        probe.pass(2);
        probe.setProbe(0, 0, 2, 60);
        probe.pass(1);
        Checks.due("deliver(1)", probe.deliver(1), 2);
        Checks.due("no warm minute", probe.pallet(1, 9), 3);
        Checks.due("deliver(0)", probe.deliver(0), 2);
        Checks.due("3 warm minutes, allowance 2", probe.pallet(0, 9), 1);
        ColdChain edge = Look.withOpenVan(0, 30);
        edge.loadPallet(0, 1, 12, 1, 10);
        edge.pass(1);
        edge.door(0, 0);
        edge.setProbe(0, 1, 2, 60);
        edge.pass(1);
        edge.door(0, 1);
        Checks.due("2 told minutes, allowance 1", edge.deliver(0), 2);
        Checks.due("1 warm minute, allowance 1", edge.pallet(0, 9), 3);
    }

    private static void claims() {
        ColdChain chain = threeMinutes(23, 1, 1001);
        chain.loadPallet(0, 0, 300, 0, 5000);
        Checks.due("nothing yet", chain.claims(0), 0);
        chain.deliver(0);
        chain.deliver(1);
        Checks.due("claims(0)", chain.claims(0), 1001);
        Checks.due("claims(1)", chain.claims(1), 500);
        Checks.due("claims(2)", chain.claims(2), 501);
        Checks.due("claims(3)", chain.claims(3), 0);
        ColdChain first = rejected(9, 8);
        Checks.due("a single warm minute: claims(1)", first.claims(1), 17);
        Checks.due("a single warm minute: claims(2)", first.claims(2), 0);
        ColdChain three = threeMinutes(22, 1, 1000);
        three.deliver(0);
        Checks.due("1000 * 2 / 3", three.claims(1), 666);
        Checks.due("the rest", three.claims(2), 334);
    }

    private static void claimsWithDetours() {
        ColdChain chain = Look.withOpenVan(0, 5);
        chain.setNumber(0, 0);
        chain.setProbe(0, 1, 2, 60);
        chain.loadPallet(0, 1, 50, 0, 30);
        chain.loadPallet(0, 0, -1, 0, 10);
        chain.pass(1);
        chain.door(0, 0);
        chain.pass(2);
        chain.door(0, 1);
        chain.deliver(0);
        chain.deliver(1);
        Checks.due("the probe", chain.claims(3), 30);
        Checks.due("10 * 1 / 3", chain.claims(1), 3);
        Checks.due("the rest", chain.claims(2), 7);
        Checks.due("detour(3, 41)", chain.detour(3, 41), 31);
        Checks.due("claims(0)", chain.claims(0), 81);
        Checks.due("30 + 31", chain.claims(3), 61);
        Checks.due("(10 + 10) * 1 / 3", chain.claims(1), 6);
        Checks.due("the rest", chain.claims(2), 14);
    }

    private static void refusesClaims() {
        for (int cause : new int[] {-1, 4, Look.LOW, Look.HIGH}) {
            Edge.refuse("claims(" + cause + ")", Look.INVALID, () -> rejected(1), c -> c.claims(cause));
        }
    }
}
