/** What the document says of errors, in each call. */
final class ErrorEdges {
    private static final String FIRST = "If several error codes apply, the one that is named first in the description of the"
        + " method is returned";

    private ErrorEdges() {
    }

    static void run() {
        nothingChanges();
        firstOfSeveral();
        firstOfSeveralInScripts();
        noneIsLast();
        bitsAndConstants();
        beyondTime();
    }

    private static void nothingChanges() {
        Edge edge = new Edge("Errors");
        String words = "A method that returns an error code changes nothing";
        edge.refused(words, "addVan", Look.INVALID, Edge::busy, c -> c.addVan(5, 31));
        edge.refused(words, "addVan, full", Look.FULL, Edge::threeVans, c -> c.addVan(5, 5));
        edge.refused(words, "setNumber", Look.INVALID, Edge::busy, c -> c.setNumber(0, 451), c -> c.setNumber(3, 5));
        edge.refused(words, "setVan", Look.INVALID, Edge::busy, c -> c.setVan(0, 5, 31), c -> c.setVan(0, 101, 5));
        edge.refused(words, "setProbe", Look.INVALID, Edge::busy, c -> c.setProbe(0, 1, 2, 451), c -> c.setProbe(0, 1, 3, 0));
        edge.refused(words, "repair", Look.INVALID, Edge::busy, c -> c.repair(0, 3), c -> c.repair(2, 1));
        edge.refused(words, "loadPallet", Look.INVALID, Edge::busy, c -> c.loadPallet(0, 0, 5, 5, 10000));
        edge.refused(words, "loadPallet, closed", Look.ILLEGAL, Edge::busy, c -> c.loadPallet(1, 0, 5, 5, 5));
        edge.refused(words, "loadPallet, full", Look.FULL, PalletEdges::fullZone, c -> c.loadPallet(0, 1, 5, 5, 5));
        edge.refused(words, "door", Look.INVALID, Edge::busy, c -> c.door(0, 2), c -> c.door(1, -1));
        edge.refused(words, "door, so already", Look.ILLEGAL, Edge::busy, c -> c.door(0, 1), c -> c.door(1, 0));
        edge.refused(words, "pass", Look.INVALID, Edge::busy, c -> c.pass(301), c -> c.pass(0));
        edge.refused(words, "pass, no time left", Look.FULL, () -> Edge.at(400), c -> c.pass(201));
        edge.refused(words, "deliver", Look.INVALID, Edge::busy, c -> c.deliver(4), c -> c.deliver(-1));
        edge.refused(words, "deliver, not in a van", Look.ILLEGAL, Edge::busy, c -> c.deliver(0));
        edge.refused(words, "detour", Look.INVALID, Edge::busy, c -> c.detour(1, 10000), c -> c.detour(17, 5));
        edge.refused(words, "detour, one not rejected", Look.ILLEGAL, Edge::busy, c -> c.detour(9, 5));
        edge.refused(words, "appendCharacter", Look.INVALID, Edge::busy, c -> c.appendCharacter(256));
        edge.refused(words, "undo", Look.ILLEGAL, ColdChain::new, ColdChain::undo);
        edge.refused(words, "count, van, zone, pallet, claims", Look.INVALID, Edge::busy, c -> c.count(9),
            c -> c.van(0, 4), c -> c.zone(0, 0, 6), c -> c.pallet(0, 11), c -> c.claims(4));
        edge.refused(words, "log, warm, minutesLeft, longestOpen", Look.INVALID, Edge::busy, c -> c.log(0, 0, 0, 0),
            c -> c.warm(0, 0, 0, 2, 1, 0), c -> c.minutesLeft(4), c -> c.longestOpen(2));
        edge.refused(words, "minutesLeft, not in a van", Look.ILLEGAL, Edge::busy, c -> c.minutesLeft(0));
    }

    /** An open van with three pallets in its zone 1, and a closed one with three in its zone 1. */
    private static ColdChain fullAndClosed() {
        ColdChain chain = PalletEdges.fullZone();
        for (int k = 0; k < 3; k++) {
            chain.loadPallet(1, 1, 300, 0, 0);
        }
        chain.door(1, 0);
        return chain;
    }

    private static ColdChain twelveAndClosed() {
        ColdChain chain = PalletEdges.twelve();
        chain.door(1, 0);
        return chain;
    }

    private static void firstOfSeveral() {
        Edge edge = new Edge("Errors");
        edge.refused(FIRST, "addVan: a wrong argument ahead of 3 vans", Look.INVALID, Edge::threeVans,
            c -> c.addVan(101, 0), c -> c.addVan(0, 31));
        edge.refused(FIRST, "loadPallet: a wrong argument ahead of a closed door", Look.INVALID, Edge::busy,
            c -> c.loadPallet(1, 3, 0, 0, 0), c -> c.loadPallet(1, 0, 301, 0, 0), c -> c.loadPallet(1, 0, 0, 601, 0),
            c -> c.loadPallet(1, 0, 0, 0, 10000), c -> c.loadPallet(1, 0, 0, 0, -1));
        edge.refused(FIRST, "loadPallet: a wrong argument ahead of 12 pallets", Look.INVALID, PalletEdges::twelve,
            c -> c.loadPallet(1, -1, 0, 0, 0), c -> c.loadPallet(2, 0, 0, 0, 0), c -> c.loadPallet(1, 1, 0, -1, 0));
        edge.refused(FIRST, "loadPallet: a wrong argument ahead of a full zone", Look.INVALID, PalletEdges::fullZone,
            c -> c.loadPallet(0, 1, -301, 0, 0), c -> c.loadPallet(0, 1, 0, 601, 0), c -> c.loadPallet(0, 1, 0, 0, 10000));
        edge.refused(FIRST, "loadPallet: a closed door ahead of a full zone", Look.ILLEGAL, ErrorEdges::fullAndClosed,
            c -> c.loadPallet(1, 1, 0, 0, 0));
        edge.refused(FIRST, "loadPallet: a closed door ahead of 12 pallets", Look.ILLEGAL, ErrorEdges::twelveAndClosed,
            c -> c.loadPallet(1, 1, 0, 0, 0), c -> c.loadPallet(1, 0, 0, 0, 0));
        edge.refused(FIRST, "loadPallet: a wrong argument ahead of both", Look.INVALID, ErrorEdges::twelveAndClosed,
            c -> c.loadPallet(1, 0, 0, 0, 10000));
        edge.refused(FIRST, "door: no such van and no such state ahead of one that is so", Look.INVALID, Edge::busy,
            c -> c.door(2, 0), c -> c.door(1, 2), c -> c.door(0, 2));
        edge.refused(FIRST, "pass: wrong minutes ahead of the time", Look.INVALID, () -> Edge.at(600),
            c -> c.pass(301), c -> c.pass(Look.HIGH), c -> c.pass(0));
        edge.refused(FIRST, "deliver: no such pallet ahead of the closed doors", Look.INVALID, Edge::closedVan,
            c -> c.deliver(0), c -> c.deliver(12));
        edge.refused(FIRST, "detour: a wrong set or cost ahead of the states", Look.INVALID, Edge::busy,
            c -> c.detour(8 | 16, 5), c -> c.detour(8, 10000), c -> c.detour(2, -1), c -> c.detour(-1, 5));
        edge.refused(FIRST, "appendCharacter: a wrong character ahead of a full text", Look.INVALID, () -> {
            ColdChain chain = new ColdChain();
            Look.type(chain, "w1;".repeat(27));
            return chain;
        }, c -> c.appendCharacter(-1), c -> c.appendCharacter(256));
        edge.refused(FIRST, "minutesLeft: not in a van ahead of none", Look.ILLEGAL, Edge::busy, c -> c.minutesLeft(1));
    }

    private static void firstOfSeveralInScripts() {
        Edge edge = new Edge("Errors");
        edge.test(FIRST, "runScript: an error of the text ahead of one of a command", () -> {
            String[] texts = {"o9;q", "w0;w", "d9;r0.", "o0;w01;"};
            int[] positions = {3, 4, 6, 4};
            for (int k = 0; k < texts.length; k++) {
                String text = texts[k];
                Edge.refuse("'" + text + "'", -200000 - positions[k], () -> {
                    ColdChain chain = Edge.busy();
                    chain.clearText();
                    Look.type(chain, text);
                    return chain;
                }, ColdChain::runScript);
            }
        });
    }

    private static void noneIsLast() {
        Edge edge = new Edge("Errors");
        String words = "NONE is no error, and it is returned only if no error code applies";
        edge.refused(words, "log: a wrong argument ahead of a later time", Look.INVALID, Edge::busy,
            c -> c.log(0, 0, 601, 2), c -> c.log(0, 3, 5, 0), c -> c.log(2, 0, 5, 0), c -> c.log(-1, 0, Look.HIGH, 0));
        edge.refused(words, "log: a wrong time ahead of the van's", Look.INVALID, Edge::busy, c -> c.log(1, 0, 0, 0),
            c -> c.log(1, 0, -1, 1));
        edge.refused(words, "minutesLeft: a delivered pallet that never would be rejected", Look.ILLEGAL, () -> {
            ColdChain chain = PalletEdges.fullZone();
            chain.deliver(0);
            return chain;
        }, c -> c.minutesLeft(0));
        edge.refused(words, "minutesLeft and longestOpen: what there is not", Look.INVALID, PalletEdges::fullZone,
            c -> c.minutesLeft(3), c -> c.longestOpen(2));
        edge.refused(words, "log, minutesLeft, longestOpen where nothing else applies", Look.NONE, () -> {
            ColdChain chain = PalletEdges.fullZone();
            chain.loadPallet(1, 0, -300, 59, 0);
            return chain;
        }, c -> c.log(0, 0, 1, 0), c -> c.minutesLeft(0), c -> c.longestOpen(1));
    }

    private static void bitsAndConstants() {
        Edge edge = new Edge("Errors");
        edge.test("Sets of pallets are told as bits (bit k for pallet k)", "each pallet of twelve", () -> {
            for (int pallet = 0; pallet < 12; pallet++) {
                ColdChain chain = PalletEdges.twelve();
                chain.pass(1);
                chain.deliver(pallet);
                int due = pallet < 9 ? 0x1FF & ~(1 << pallet) : 0xE00 & ~(1 << pallet);
                Checks.due("without " + pallet, chain.van(pallet / 9, 3), due);
                Checks.due("detour of " + pallet, chain.detour(1 << pallet, 5), 5);
                Checks.due("state of " + pallet, chain.pallet(pallet, 5), 3);
            }
        });
        edge.test("`INVALID_ARGUMENT = -100001`: An argument is out of range, or names something that does not exist",
            "of each kind", () -> {
                Checks.due("the constant", ColdChain.INVALID_ARGUMENT, -100001);
                Checks.due("out of range", Edge.closedVan().setVan(0, 101, 0), -100001);
                Checks.due("no such van", Edge.closedVan().setVan(1, 100, 0), -100001);
                Checks.due("no such pallet", Edge.closedVan().pallet(0, 0), -100001);
            });
        edge.test("`ILLEGAL_STATE = -100002`: The call is not possible in the present state", "a closed door", () -> {
            Checks.due("the constant", ColdChain.ILLEGAL_STATE, -100002);
            Checks.due("door(0, 0)", Edge.closedVan().door(0, 0), -100002);
        });
        edge.test("`CAPACITY_EXCEEDED = -100003`: There is no room", "a fourth van", () -> {
            Checks.due("the constant", ColdChain.CAPACITY_EXCEEDED, -100003);
            Checks.due("addVan(0, 0)", Edge.threeVans().addVan(0, 0), -100003);
        });
        edge.test("`NONE = -100009`: There is no such value", "an entry of a later time", () -> {
            Checks.due("the constant", ColdChain.NONE, -100009);
            Checks.due("log(0, 0, 1, 0)", Edge.closedVan().log(0, 0, 1, 0), -100009);
        });
    }

    private static void beyondTime() {
        Edge edge = new Edge("Errors");
        String words = "(nothing changes; the time can become greater than 600 in them)";
        edge.test(words, "minutesLeft at 599 and 600", () -> {
            for (int time = 599; time <= 600; time++) {
                for (int allowance : new int[] {0, 1, 2, 299}) {
                    ColdChain chain = Edge.at(time);
                    chain.loadPallet(0, 2, 0, allowance, 0);
                    Checks.due("at " + time + ", allowance " + allowance, chain.minutesLeft(0), allowance + 1);
                }
            }
        });
        edge.test(words, "longestOpen at 599 and 600", () -> {
            for (int time = 599; time <= 600; time++) {
                ColdChain chain = Edge.at(time);
                chain.loadPallet(0, 2, -300, 60, 0);
                Checks.due("60 told minutes, 60 allowed", chain.longestOpen(0), 60);
                chain.loadPallet(0, 2, -300, 59, 0);
                Checks.due("60 told minutes, 59 allowed", chain.longestOpen(0), Look.NONE);
            }
        });
        edge.test(words, "nothing changes by them", () -> {
            for (int part = 0; part < 2; part++) {
                ColdChain chain = Edge.at(590);
                chain.loadPallet(0, 2, 0, 30, 0);
                chain.setProbe(0, 1, 2, -300);
                String before = part == 0 ? Edge.numbers(chain) : Edge.logged(chain);
                Checks.due("minutesLeft(0)", chain.minutesLeft(0), 31);
                Checks.due("longestOpen(0) is an answer", chain.longestOpen(0) == Look.INVALID ? 1 : 0, 0);
                Checks.isTrue("part " + part, before.equals(part == 0 ? Edge.numbers(chain) : Edge.logged(chain)));
                Checks.due("count(2)", chain.count(2), 590);
            }
        });
    }
}
