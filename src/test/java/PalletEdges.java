/** What the document says of pallets and of their minutes, and promises 7 and 10. */
final class PalletEdges {
    private PalletEdges() {
    }

    static void run() {
        pallets();
        minutes();
        deliveries();
        causes();
        loadPallet();
        deliver();
    }

    /** Nine pallets in the first van, three in the zone 0 of the second, both doors open. */
    static ColdChain twelve() {
        ColdChain chain = Edge.openVan();
        chain.addVan(0, 5);
        chain.door(1, 1);
        for (int k = 0; k < 9; k++) {
            chain.loadPallet(0, k / 3, 0, 0, 0);
        }
        for (int k = 9; k < 12; k++) {
            chain.loadPallet(1, 0, 0, 0, 0);
        }
        return chain;
    }

    static ColdChain threeOpen() {
        ColdChain chain = Edge.threeVans();
        for (int van = 0; van < 3; van++) {
            chain.door(van, 1);
        }
        return chain;
    }

    /** Three pallets that never are too warm in the zone 1 of the first of two open vans. */
    static ColdChain fullZone() {
        ColdChain chain = Edge.openVan();
        chain.addVan(0, 5);
        chain.door(1, 1);
        for (int k = 0; k < 3; k++) {
            chain.loadPallet(0, 1, 300, 0, 0);
        }
        return chain;
    }

    /**
     * A pallet, in the van with an open door, that had so many warm minutes with an open and with a
     * closed door, told ones too, and so many minutes that are told alone.
     */
    static ColdChain warmed(int open, int closed, int told, int allowance, int value) {
        ColdChain chain = Look.withOpenVan(11, 30);
        chain.setNumber(0, 11);
        chain.loadPallet(0, 0, 10, allowance, value);
        Edge.pass(chain, open);
        chain.door(0, 0);
        Edge.pass(chain, closed);
        chain.setVan(0, 10, 30);
        chain.pass(1);
        chain.door(0, 1);
        chain.setProbe(0, 0, 1, 1);
        Edge.pass(chain, told);
        return chain;
    }

    private static void minutesAre(ColdChain chain, int pallet, int open, int closed, int told) {
        Checks.due("open minutes of " + pallet, chain.pallet(pallet, 6), open);
        Checks.due("closed minutes of " + pallet, chain.pallet(pallet, 7), closed);
        Checks.due("told minutes of " + pallet, chain.pallet(pallet, 8), told);
    }

    private static void pallets() {
        Edge edge = new Edge("Pallets");
        edge.test("There are at most 12 pallets", "a twelfth is taken", () -> {
            Checks.due("count(1)", twelve().count(1), 12);
            Checks.due("pallet(11, 0)", twelve().pallet(11, 0), 1);
            Checks.due("pallet(12, 0)", twelve().pallet(12, 0), Look.INVALID);
        });
        edge.refused("There are at most 12 pallets", "a thirteenth is refused, where there is room in its zone", Look.FULL,
            PalletEdges::twelve, c -> c.loadPallet(1, 1, 0, 0, 0));
        edge.refused("There are at most 12 pallets", "a thirteenth is refused where others are delivered", Look.FULL,
            () -> {
                ColdChain chain = twelve();
                for (int k = 0; k < 12; k++) {
                    chain.deliver(k);
                }
                return chain;
            }, c -> c.loadPallet(0, 0, 0, 0, 0), c -> c.loadPallet(1, 2, 0, 0, 0));
        edge.test("numbered from 0 in the order in which they were loaded", "in two and three vans by turns", () -> {
            ColdChain three = threeOpen();
            for (int k = 0; k < 12; k++) {
                Checks.due("loadPallet", three.loadPallet(k % 3, k / 3 % 3, 0, 0, 0), k);
            }
            ColdChain chain = Edge.openVan();
            chain.addVan(0, 5);
            chain.door(1, 1);
            for (int k = 0; k < 12; k++) {
                Checks.due("loadPallet", chain.loadPallet(k % 2, k / 2 % 3, 0, 0, 100 + k), k);
            }
            for (int k = 0; k < 12; k++) {
                Checks.due("value of " + k, chain.pallet(k, 4), 100 + k);
            }
        });
        edge.range("a limit (-300 to 300)", -300, 300, Edge::openVan,
            (c, n) -> c.loadPallet(0, 0, n, 0, 0), c -> c.pallet(0, 2));
        edge.range("an allowance (0 to 600 minutes)", 0, 600, Edge::openVan,
            (c, n) -> c.loadPallet(0, 0, 0, n, 0), c -> c.pallet(0, 3));
        edge.range("a value (0 to 9999)", 0, 9999, Edge::openVan,
            (c, n) -> c.loadPallet(0, 0, 0, 0, n), c -> c.pallet(0, 4));
        edge.test("a state: 0 in the van, 1 accepted, 2 rejected, 3 brought back", "each of the four", () -> {
            ColdChain chain = Edge.busy();
            int[] due = {2, 1, 3, 0};
            for (int pallet = 0; pallet < due.length; pallet++) {
                Checks.due("state of " + pallet, chain.pallet(pallet, 5), due[pallet]);
            }
        });
        edge.test("At most 3 pallets are in one zone at a time", "a third is taken", () -> {
            Checks.due("van(0, 3)", fullZone().van(0, 3), 7);
        });
        edge.refused("At most 3 pallets are in one zone at a time", "a fourth is refused", Look.FULL,
            PalletEdges::fullZone, c -> c.loadPallet(0, 1, 0, 0, 0));
        edge.test("At most 3 pallets are in one zone at a time", "other zones and vans have room", () -> {
            Checks.due("zone 0", fullZone().loadPallet(0, 0, 0, 0, 0), 3);
            Checks.due("zone 2", fullZone().loadPallet(0, 2, 0, 0, 0), 3);
            Checks.due("another van", fullZone().loadPallet(1, 1, 0, 0, 0), 3);
        });
        edge.test("At most 3 pallets are in one zone at a time", "of each zone of each van, loaded by turns", () -> {
            for (int van = 0; van < 3; van++) {
                ColdChain chain = threeOpen();
                chain.loadPallet((van + 1) % 3, 2, 0, 0, 0);
                for (int k = 0; k < 9; k++) {
                    Checks.due("zone " + k % 3, chain.loadPallet(van, k % 3, 0, 0, 0), k + 1);
                }
                for (int zone = 0; zone < 3; zone++) {
                    Checks.due("a fourth in " + zone, chain.loadPallet(van, zone, 0, 0, 0), Look.FULL);
                }
                chain.deliver(5);
                Checks.due("zone 0", chain.loadPallet(van, 0, 0, 0, 0), Look.FULL);
                Checks.due("zone 2", chain.loadPallet(van, 2, 0, 0, 0), Look.FULL);
                Checks.due("zone 1", chain.loadPallet(van, 1, 0, 0, 0), 10);
                Checks.due("another van", chain.loadPallet((van + 1) % 3, 1, 0, 0, 0), 11);
            }
        });
        edge.test("at a time", "delivered ones, accepted and rejected and brought back, leave room", () -> {
            ColdChain chain = Edge.openVan();
            chain.loadPallet(0, 1, 300, 0, 0);
            chain.loadPallet(0, 1, -300, 0, 0);
            chain.loadPallet(0, 1, -300, 0, 0);
            chain.pass(1);
            for (int k = 0; k < 3; k++) {
                chain.deliver(k);
                Checks.due("in its place", chain.loadPallet(0, 1, 300, 0, 0), 3 + k);
                Checks.due("no other", chain.loadPallet(0, 1, 300, 0, 0), Look.FULL);
            }
            chain.detour(6, 0);
            Checks.due("after the detour", chain.loadPallet(0, 1, 300, 0, 0), Look.FULL);
        });
    }

    private static void minutes() {
        Edge edge = new Edge("Vans");
        String warm = "if the temperature of its zone is above its limit, it has one more warm minute";
        edge.test(warm, "at the limit it has none, one above it has one", () -> {
            for (int open = 0; open <= 1; open++) {
                ColdChain chain = Look.withOpenVan(10, 0);
                chain.setNumber(0, 10);
                chain.loadPallet(0, 1, 10, 0, 0);
                chain.loadPallet(0, 1, 9, 0, 0);
                chain.loadPallet(0, 1, 11, 0, 0);
                if (open == 0) {
                    chain.door(0, 0);
                }
                chain.pass(1);
                minutesAre(chain, 0, 0, 0, 0);
                minutesAre(chain, 1, open, 1 - open, 1);
                minutesAre(chain, 2, 0, 0, 0);
            }
        });
        edge.test(warm, "the temperature after the air has moved, of its own zone", () -> {
            ColdChain chain = Edge.openVan();
            // 6 12 24, then 6 13 23
            for (int zone = 0; zone < 3; zone++) {
                chain.loadPallet(0, zone, 12, 0, 0);
                chain.loadPallet(0, zone, 23, 0, 0);
            }
            chain.pass(1);
            int[] due = {0, 0, 1, 0, 1, 0};
            for (int pallet = 0; pallet < due.length; pallet++) {
                minutesAre(chain, pallet, due[pallet], 0, due[pallet]);
            }
        });
        edge.test("For each pallet that is in the van", "not for the delivered ones, the ones of a closed van too", () -> {
            ColdChain chain = twelve();
            chain.deliver(0);
            chain.door(1, 0);
            chain.setVan(1, 20, 0);
            chain.pass(2);
            minutesAre(chain, 0, 0, 0, 0);
            minutesAre(chain, 1, 2, 0, 2);
            minutesAre(chain, 8, 2, 0, 2);
            minutesAre(chain, 11, 0, 2, 2);
        });
        edge.test("an open one if the door is open, a closed one otherwise", "each to its own", () -> {
            ColdChain chain = warmed(3, 2, 0, 0, 0);
            minutesAre(chain, 0, 3, 2, 5);
        });
        String told = "and if the told temperature of its zone is above its limit, it has one more told minute";
        edge.test(told, "told and not warm, warm and not told", () -> {
            for (int shift = -2; shift <= 2; shift++) {
                ColdChain chain = Look.withOpenVan(10, 0);
                chain.setNumber(0, 10);
                chain.loadPallet(0, 1, 10, 0, 0);
                chain.loadPallet(0, 1, 9, 0, 0);
                chain.setProbe(0, 1, 1, shift);
                chain.pass(1);
                minutesAre(chain, 0, 0, 0, shift > 0 ? 1 : 0);
                minutesAre(chain, 1, 1, 0, shift > -1 ? 1 : 0);
            }
        });
        edge.test(told, "in the minute in which its probe is found, by the others", () -> {
            ColdChain chain = Edge.openVan();
            chain.setNumber(0, 0);
            chain.loadPallet(0, 1, 0, 9, 0);
            chain.setProbe(0, 1, 2, 400);
            chain.pass(2);
            minutesAre(chain, 0, 0, 0, 2);
            chain.pass(1);
            minutesAre(chain, 0, 0, 0, 2);
        });
        edge.test(told, "of a found probe: by what the others read, not by its own reading or the temperature", () -> {
            for (int shift : new int[] {4, -4}) {
                ColdChain chain = Look.withOpenVan(0, 0);
                chain.setNumber(0, 0);
                chain.setNumber(2, 1);
                chain.loadPallet(0, 1, 3, 0, 0);
                chain.loadPallet(0, 1, 4, 0, 0);
                chain.loadPallet(0, 1, -1, 0, 0);
                chain.setProbe(0, 0, 1, shift);
                chain.setProbe(0, 1, 2, 400);
                chain.setProbe(0, 2, 1, shift);
                chain.pass(1);
                minutesAre(chain, 0, 0, 0, shift > 0 ? 1 : 0);
                minutesAre(chain, 1, 0, 0, 0);
                minutesAre(chain, 2, 1, 0, shift > 0 ? 1 : 0);
            }
        });
    }

    private static void deliveries() {
        Edge edge = new Edge("Pallets");
        String deliver = "if its told minutes are more than its allowance, it is rejected, otherwise it is accepted";
        edge.test(deliver, "as many as its allowance, one more", () -> {
            Checks.due("0 told, 0 allowed", warmed(0, 0, 0, 0, 0).deliver(0), 1);
            Checks.due("1 told, 0 allowed", warmed(0, 0, 1, 0, 0).deliver(0), 2);
            Checks.due("5 told, 5 allowed", warmed(2, 2, 1, 5, 0).deliver(0), 1);
            Checks.due("5 told, 4 allowed", warmed(2, 2, 1, 4, 0).deliver(0), 2);
        });
        edge.test(deliver, "600 minutes", () -> {
            for (int allowance = 599; allowance <= 600; allowance++) {
                ColdChain chain = Edge.openVan();
                chain.loadPallet(0, 0, -300, allowance, 0);
                chain.pass(300);
                chain.pass(300);
                Checks.due("allowance " + allowance, chain.deliver(0), allowance == 600 ? 1 : 2);
            }
        });
        edge.test(deliver, "warm minutes that are not told do not tell", () -> {
            ColdChain chain = Edge.openVan();
            chain.loadPallet(0, 2, 0, 0, 0);
            chain.setProbe(0, 2, 1, -24);
            chain.pass(1);
            minutesAre(chain, 0, 1, 0, 0);
            Checks.due("deliver(0)", chain.deliver(0), 1);
        });
        edge.test("it is not in the van any more", "accepted and rejected", () -> {
            ColdChain chain = warmed(0, 0, 1, 0, 0);
            chain.loadPallet(0, 2, 0, 0, 0);
            Checks.due("van(0, 3)", chain.van(0, 3), 3);
            chain.deliver(0);
            Checks.due("van(0, 3)", chain.van(0, 3), 2);
            chain.deliver(1);
            Checks.due("van(0, 3)", chain.van(0, 3), 0);
            Checks.due("door(0, 0)", chain.door(0, 0), 0);
        });
    }

    private static void causeIs(int due, int open, int closed, int told, int allowance) {
        ColdChain chain = warmed(open, closed, told, allowance, 9);
        Checks.due("in the van", chain.pallet(0, 9), 0);
        Checks.due("deliver(0)", chain.deliver(0), 2);
        String name = open + " open, " + closed + " closed, " + told + " told, allowance " + allowance;
        Checks.due(name, chain.pallet(0, 9), due);
        chain.detour(1, 9);
        Checks.due("brought back", chain.pallet(0, 9), due);
    }

    private static void causes() {
        Edge edge = new Edge("Pallets");
        edge.test("3 (the probe) if its warm minutes, open and closed ones together, are not more than its allowance",
            "as many as its allowance, one more, none at all", () -> {
                causeIs(3, 0, 0, 1, 0);
                causeIs(3, 1, 1, 1, 2);
                causeIs(3, 2, 0, 1, 2);
                causeIs(3, 0, 2, 1, 2);
                causeIs(3, 1, 1, 9, 10);
                causeIs(1, 2, 1, 5, 2);
                causeIs(2, 1, 2, 5, 2);
            });
        edge.test("otherwise 1 (the door) if its open ones are at least as many as its closed ones",
            "as many, one more, all", () -> {
                causeIs(1, 1, 1, 0, 1);
                causeIs(1, 4, 4, 0, 7);
                causeIs(1, 3, 2, 0, 0);
                causeIs(1, 1, 0, 0, 0);
            });
        edge.test("otherwise 2 (the cooling)", "one more closed one, all", () -> {
            causeIs(2, 1, 2, 0, 2);
            causeIs(2, 4, 5, 0, 0);
            causeIs(2, 0, 1, 0, 0);
        });
        edge.test("The cause of any other pallet is 0", "in the van with warm minutes; accepted with some", () -> {
            ColdChain chain = warmed(3, 2, 0, 5, 9);
            Checks.due("in the van", chain.pallet(0, 9), 0);
            Checks.due("deliver(0)", chain.deliver(0), 1);
            Checks.due("accepted", chain.pallet(0, 9), 0);
            Checks.due("overdue in the van", warmed(3, 2, 0, 4, 9).pallet(0, 9), 0);
        });
    }

    private static void loadPallet() {
        Edge edge = new Edge("Promise 7");
        edge.test("Loads a pallet", "as it was told, without minutes", () -> {
            ColdChain chain = Edge.openVan();
            chain.addVan(0, 5);
            chain.door(1, 1);
            chain.loadPallet(1, 2, -300, 600, 9999);
            int[] due = {1, 2, -300, 600, 9999, 0, 0, 0, 0, 0, 0};
            for (int what = 0; what < due.length; what++) {
                Checks.due("pallet(0, " + what + ")", chain.pallet(0, what), due[what]);
            }
            Checks.due("van(1, 3)", chain.van(1, 3), 1);
            Checks.due("van(0, 3)", chain.van(0, 3), 0);
        });
        edge.names("`van`: a van", 0, 1, PalletEdges::fullZone, (c, n) -> c.loadPallet(n, 0, 0, 0, 0));
        edge.range("`zone`: 0 to 2", 0, 2, Edge::openVan, (c, n) -> c.loadPallet(0, n, 0, 0, 0), c -> c.pallet(0, 1));
        edge.range("`limit`: -300 to 300", -300, 300, Edge::openVan,
            (c, n) -> c.loadPallet(0, 1, n, 1, 1), c -> c.pallet(0, 2));
        edge.range("`allowance`: 0 to 600", 0, 600, Edge::openVan,
            (c, n) -> c.loadPallet(0, 1, 1, n, 1), c -> c.pallet(0, 3));
        edge.range("`value`: 0 to 9999", 0, 9999, Edge::openVan,
            (c, n) -> c.loadPallet(0, 1, 1, 1, n), c -> c.pallet(0, 4));
        edge.test("Returns its number", "0, then 1, then 1 again after an undo", () -> {
            ColdChain chain = Edge.openVan();
            Checks.due("loadPallet", chain.loadPallet(0, 0, 1, 1, 1), 0);
            Checks.due("loadPallet", chain.loadPallet(0, 0, 2, 2, 2), 1);
            chain.undo();
            Checks.due("loadPallet", chain.loadPallet(0, 0, 3, 3, 3), 1);
            Checks.due("value", chain.pallet(1, 4), 3);
        });
        edge.refused("INVALID_ARGUMENT if there is no such van or an argument is out of range",
            "without vans; all wrong", Look.INVALID, ColdChain::new, c -> c.loadPallet(0, 0, 0, 0, 0),
            c -> c.loadPallet(-1, 3, 301, 601, 10000));
        edge.refused("ILLEGAL_STATE if the door is closed", "of that van; another one is open", Look.ILLEGAL, Edge::busy,
            c -> c.loadPallet(1, 0, 0, 0, 0), c -> c.loadPallet(1, 2, -300, 600, 9999));
        edge.refused("CAPACITY_EXCEEDED if there are 12 pallets, or 3 are in this zone", "12 pallets", Look.FULL,
            PalletEdges::twelve, c -> c.loadPallet(1, 2, 0, 0, 0), c -> c.loadPallet(0, 0, 0, 0, 0));
        edge.refused("CAPACITY_EXCEEDED if there are 12 pallets, or 3 are in this zone", "3 in this zone", Look.FULL,
            PalletEdges::fullZone, c -> c.loadPallet(0, 1, 300, 600, 9999));
    }

    private static void deliver() {
        Edge edge = new Edge("Promise 10");
        edge.test("Delivers a pallet", "that one alone", () -> {
            ColdChain chain = fullZone();
            chain.deliver(1);
            Checks.due("pallet(0, 5)", chain.pallet(0, 5), 0);
            Checks.due("pallet(1, 5)", chain.pallet(1, 5), 1);
            Checks.due("pallet(2, 5)", chain.pallet(2, 5), 0);
        });
        edge.names("`pallet`: a pallet", 0, 2, PalletEdges::fullZone, ColdChain::deliver);
        edge.names("`pallet`: a pallet", 0, 11, PalletEdges::twelve, ColdChain::deliver);
        edge.test("Returns its state then", "accepted, rejected", () -> {
            Checks.due("accepted", warmed(1, 0, 0, 1, 0).deliver(0), 1);
            Checks.due("rejected", warmed(1, 0, 0, 0, 0).deliver(0), 2);
        });
        edge.refused("INVALID_ARGUMENT if there is no such pallet", "without pallets", Look.INVALID, Edge::openVan,
            c -> c.deliver(0), c -> c.deliver(-1), c -> c.deliver(11));
        edge.refused("ILLEGAL_STATE if it is not in a van", "rejected, accepted, brought back; its door is open",
            Look.ILLEGAL, Edge::busy, c -> c.deliver(0), c -> c.deliver(1), c -> c.deliver(2));
        edge.refused("or the door of its van is closed", "another van's is open", Look.ILLEGAL, () -> {
            ColdChain chain = fullZone();
            chain.door(0, 0);
            return chain;
        }, c -> c.deliver(0), c -> c.deliver(2));
        for (int van = 0; van < 3; van++) {
            int closed = van;
            edge.refused("or the door of its van is closed", "that of van " + van + " alone", Look.ILLEGAL, () -> {
                ColdChain chain = oneEach();
                chain.door(closed, 0);
                return chain;
            }, c -> c.deliver(closed));
        }
        edge.test("or the door of its van is closed", "the other two vans are closed: it is delivered", () -> {
            for (int van = 0; van < 3; van++) {
                ColdChain chain = oneEach();
                chain.door((van + 1) % 3, 0);
                chain.door((van + 2) % 3, 0);
                Checks.due("deliver(" + van + ")", chain.deliver(van), 1);
            }
        });
    }

    /** Three open vans, each with the pallet of its number. */
    private static ColdChain oneEach() {
        ColdChain chain = threeOpen();
        for (int van = 0; van < 3; van++) {
            chain.loadPallet(van, 0, 0, 0, 0);
        }
        return chain;
    }
}
