import java.util.Arrays;

/** What the document says of detours and of claims, and promises 11 and 19. */
final class DetourEdges {
    private DetourEdges() {
    }

    static void run() {
        detours();
        numbersOfPallets();
        claimed();
        claimShares();
        detour();
        claims();
    }

    /** Pallets with these values, up to 12, all rejected with one open minute each. */
    private static ColdChain rejected(int... values) {
        ColdChain chain = Edge.openVan();
        for (int first = 0; first < values.length; first += 9) {
            int end = Math.min(first + 9, values.length);
            for (int k = first; k < end; k++) {
                chain.loadPallet(0, k % 3, -300, 0, values[k]);
            }
            chain.pass(1);
            for (int k = first; k < end; k++) {
                Checks.due("deliver(" + k + ")", chain.deliver(k), 2);
            }
        }
        return chain;
    }

    private static int[] alike(int number, int value) {
        int[] values = new int[number];
        Arrays.fill(values, value);
        return values;
    }

    private static void shares(ColdChain chain, int pallets, int cost, String due) {
        chain.detour(pallets, cost);
        StringBuilder parts = new StringBuilder();
        int sum = 0;
        for (int k = 0; k < chain.count(1); k++) {
            parts.append(k == 0 ? "" : " ").append(chain.pallet(k, 10));
            sum += chain.pallet(k, 10);
        }
        Checks.isTrue("parts of " + cost + ": " + parts + ", due is " + due, parts.toString().equals(due));
        Checks.due("all parts together", sum, cost);
    }

    private static void claimsAre(ColdChain chain, int door, int cooling, int probe) {
        Checks.due("claims(1)", chain.claims(1), door);
        Checks.due("claims(2)", chain.claims(2), cooling);
        Checks.due("claims(3)", chain.claims(3), probe);
        Checks.due("claims(0)", chain.claims(0), door + cooling + probe);
    }

    private static void detours() {
        Edge edge = new Edge("Detours");
        edge.test("its cost is shared by their values: the part of each is cost * value / (sum of their values)",
            "nothing is left", () -> {
                shares(rejected(1, 1), 3, 4, "2 2");
                shares(rejected(10, 0, 30), 7, 8, "2 0 6");
                shares(rejected(9999), 1, 9999, "9999");
            });
        edge.test("its cost is shared by their values: the part of each is cost * value / (sum of their values)",
            "no cost", () -> {
                shares(rejected(5, 0, 9), 7, 0, "0 0 0");
                Checks.due("state", rejected(5).detour(1, 0), 0);
            });
        edge.test("its cost is shared by their values: the part of each is cost * value / (sum of their values)",
            "the greatest cost, values and number of pallets", () -> {
                String less = " 833 833 833 833 833 833 833 833 833";
                shares(rejected(alike(12, 9999)), 4095, 9999, "834 834 834" + less);
                shares(rejected(9999, 1), 3, 9999, "9999 0");
            });
        String left = "what is left is given in units of 1 to the pallets by ascending numbers, one to each";
        edge.test(left, "one, and one less than there are pallets", () -> {
            shares(rejected(1, 1), 3, 5, "3 2");
            shares(rejected(7, 7, 7), 7, 7, "3 2 2");
            shares(rejected(7, 7, 7), 7, 8, "3 3 2");
            shares(rejected(alike(12, 3)), 4095, 11, "1 1 1 1 1 1 1 1 1 1 1 0");
        });
        edge.test(left, "the chosen ones alone", () -> {
            shares(rejected(4, 4, 4, 4, 4), 26, 5, "0 2 0 2 1");
            shares(rejected(4, 4, 4), 4, 5, "0 0 5");
        });
        edge.test("(also to those with the value 0)", "the first and the last have none", () -> {
            shares(rejected(0, 1, 1), 7, 1, "1 0 0");
            shares(rejected(0, 5, 5), 7, 11, "1 5 5");
            shares(rejected(5, 5, 5, 0), 15, 5, "2 2 1 0");
            // 8 * 5 / 15 is 2 for each of the three
            shares(rejected(5, 5, 0, 5), 15, 8, "3 3 0 2");
        });
        edge.test("If all values are 0, they count as 1 each", "none left, some left, one pallet, twelve", () -> {
            shares(rejected(0, 0), 3, 8, "4 4");
            shares(rejected(0, 0, 0), 7, 8, "3 3 2");
            shares(rejected(0), 1, 9, "9");
            shares(rejected(alike(12, 0)), 4095, 1, "1 0 0 0 0 0 0 0 0 0 0 0");
            shares(rejected(0, 0), 3, 0, "0 0");
        });
        edge.test("If all values are 0, they count as 1 each", "not if one is 1; if all of the chosen ones are", () -> {
            shares(rejected(0, 1), 3, 10, "0 10");
            shares(rejected(0, 7, 0), 5, 10, "5 0 5");
        });
    }

    private static void numbersOfPallets() {
        Edge edge = new Edge("Detours");
        edge.test("A detour brings rejected pallets back together", "1 to 12 of them, with alike values and without", () -> {
            for (int number = 1; number <= 12; number++) {
                StringBuilder due = new StringBuilder();
                for (int k = 0; k < number; k++) {
                    due.append(k == 0 ? "" : " ").append(50 / number + (k < 50 % number ? 1 : 0));
                }
                shares(rejected(alike(number, 7)), (1 << number) - 1, 50, due.toString());
                ColdChain worthless = rejected(alike(number, 0));
                worthless.setNumber(0, -number);
                shares(worthless, (1 << number) - 1, 50, due.toString());
            }
        });
        edge.test("A detour brings rejected pallets back together", "each two of twelve", () -> {
            for (int first = 0; first < 12; first++) {
                int second = (first + 5) % 12;
                ColdChain chain = rejected(alike(12, 3));
                Checks.due("detour", chain.detour(1 << first | 1 << second, 9), 5);
                for (int k = 0; k < 12; k++) {
                    boolean among = k == first || k == second;
                    Checks.due("state of " + k, chain.pallet(k, 5), among ? 3 : 2);
                    Checks.due("part of " + k, chain.pallet(k, 10), !among ? 0 : k == Math.min(first, second) ? 5 : 4);
                }
                Checks.due("detour of the others", chain.detour(4095 ^ (1 << first | 1 << second), 39), 4);
                int left = 9;
                for (int k = 0; k < 12; k++) {
                    boolean among = k == first || k == second;
                    int later = left > 0 ? 4 : 3;
                    Checks.due("part of " + k, chain.pallet(k, 10), !among ? later : k == Math.min(first, second) ? 5 : 4);
                    left -= among ? 0 : 1;
                }
            }
        });
        edge.test("the part of each is cost * value / (sum of their values)", "twelve with other values each", () -> {
            int[] values = {1, 2, 3, 4, 5, 6, 7, 8, 9, 10, 11, 12};
            shares(rejected(values), 4095, 785, "11 21 31 41 51 60 70 80 90 100 110 120");
            int[] back = {12, 11, 10, 9, 8, 7, 6, 5, 4, 3, 2, 1};
            shares(rejected(back), 4095, 785, "121 111 101 91 81 70 60 50 40 30 20 10");
        });
    }

    private static void claimed() {
        Edge edge = new Edge("Pallets");
        edge.test("The claim for a rejected pallet is its value plus its part of a detour", "without, with, both 0", () -> {
            ColdChain chain = rejected(100);
            Checks.due("without", chain.claims(0), 100);
            chain.detour(1, 7);
            Checks.due("with", chain.claims(0), 107);
            Checks.due("value 0", rejected(0).claims(0), 0);
            ColdChain worthless = rejected(0, 0);
            worthless.detour(3, 7);
            claimsAre(worthless, 7, 0, 0);
            ColdChain most = rejected(9999);
            most.detour(1, 9999);
            Checks.due("the most", most.claims(0), 19998);
        });
        edge.test("The claim for a rejected pallet is its value plus its part of a detour", "none for others", () -> {
            ColdChain chain = PalletEdges.warmed(2, 2, 0, 4, 100);
            claimsAre(chain, 0, 0, 0);
            chain.deliver(0);
            Checks.due("accepted", chain.pallet(0, 5), 1);
            claimsAre(chain, 0, 0, 0);
            claimsAre(PalletEdges.warmed(2, 2, 0, 0, 100), 0, 0, 0);
            ColdChain cold = PalletEdges.warmed(0, 0, 0, 0, 100);
            claimsAre(cold, 0, 0, 0);
            cold.deliver(0);
            Checks.due("accepted without warm minutes", cold.pallet(0, 5), 1);
            claimsAre(cold, 0, 0, 0);
        });
        edge.test("all falls to its cause if that is 3", "with warm minutes too, with its part", () -> {
            ColdChain chain = PalletEdges.warmed(2, 1, 1, 3, 100);
            chain.deliver(0);
            claimsAre(chain, 0, 0, 100);
            chain.detour(1, 11);
            claimsAre(chain, 0, 0, 111);
            ColdChain none = PalletEdges.warmed(0, 0, 1, 0, 100);
            none.deliver(0);
            claimsAre(none, 0, 0, 100);
        });
    }

    private static void claimShares() {
        Edge edge = new Edge("Pallets");
        String share = "otherwise claim * (open minutes) / (warm minutes) falls to the cause 1, and the rest to the cause 2";
        edge.test(share, "open ones alone, closed ones alone", () -> {
            fallsTo(5, 0, 100, 100, 0);
            fallsTo(0, 5, 100, 0, 100);
            fallsTo(1, 0, 0, 0, 0);
        });
        edge.test(share, "what is not whole falls to the cause 2, whatever the cause of the pallet is", () -> {
            fallsTo(1, 1, 1, 0, 1);
            fallsTo(1, 2, 1000, 333, 667);
            fallsTo(2, 1, 1000, 666, 334);
            fallsTo(2, 1, 1, 0, 1);
        });
        edge.test(share, "the warm minutes, not the told ones, more of them or fewer", () -> {
            ColdChain more = PalletEdges.warmed(1, 2, 6, 0, 900);
            more.deliver(0);
            claimsAre(more, 300, 600, 0);
            ColdChain fewer = Edge.openVan();
            fewer.loadPallet(0, 1, -300, 0, 900);
            fewer.pass(1);
            fewer.setProbe(0, 1, 2, -300);
            fewer.setNumber(2, 30);
            fewer.pass(1);
            fewer.door(0, 0);
            fewer.pass(1);
            fewer.door(0, 1);
            fewer.deliver(0);
            Checks.due("told minutes", fewer.pallet(0, 8), 1);
            claimsAre(fewer, 600, 300, 0);
        });
        edge.test(share, "the greatest claim and the most minutes", () -> {
            ColdChain chain = Edge.openVan();
            chain.loadPallet(0, 0, -300, 0, 9999);
            chain.pass(300);
            chain.door(0, 0);
            chain.pass(300);
            chain.door(0, 1);
            chain.deliver(0);
            chain.detour(1, 9999);
            claimsAre(chain, 9999, 9999, 0);
        });
    }

    private static void fallsTo(int open, int closed, int value, int door, int cooling) {
        ColdChain chain = PalletEdges.warmed(open, closed, 0, 0, value);
        Checks.due("deliver(0)", chain.deliver(0), 2);
        claimsAre(chain, door, cooling, 0);
    }

    private static void detour() {
        Edge edge = new Edge("Promise 11");
        edge.test("Brings rejected pallets back in one detour", "the chosen ones alone", () -> {
            ColdChain chain = rejected(1, 1, 1);
            chain.detour(5, 0);
            Checks.due("pallet(0, 5)", chain.pallet(0, 5), 3);
            Checks.due("pallet(1, 5)", chain.pallet(1, 5), 2);
            Checks.due("pallet(2, 5)", chain.pallet(2, 5), 3);
        });
        String set = "`pallets`: a set of pallets, not empty";
        edge.names(set, 1, 4095, () -> rejected(alike(12, 1)), (c, n) -> c.detour(n, 1));
        edge.names(set, 1, 3, () -> rejected(1, 1), (c, n) -> c.detour(n, 1));
        edge.refused(set, "the empty one", Look.INVALID, Edge::busy, c -> c.detour(0, 0));
        edge.refused(set, "the empty one and others, without pallets", Look.INVALID, Edge::openVan, c -> c.detour(0, 0),
            c -> c.detour(1, 0), c -> c.detour(2048, 0));
        edge.refused(set, "with one that does not exist", Look.INVALID, () -> rejected(1, 1), c -> c.detour(4, 0),
            c -> c.detour(7, 0), c -> c.detour(1 << 11, 0), c -> c.detour(1 << 12, 0), c -> c.detour(1 << 30, 0),
            c -> c.detour(1 | 1 << 30, 0), c -> c.detour(1 << 31, 0), c -> c.detour(1 | 1 << 31, 0), c -> c.detour(-1, 0));
        edge.range("`cost`: 0 to 9999", 0, 9999, () -> rejected(3), (c, n) -> c.detour(1, n), c -> c.pallet(0, 10));
        edge.test("Returns the greatest part of a pallet", "of the first, of the last, of none, of what was left", () -> {
            Checks.due("of the first", rejected(9, 1).detour(3, 10), 9);
            Checks.due("of the last", rejected(1, 9).detour(3, 10), 9);
            Checks.due("of none", rejected(1, 9).detour(3, 0), 0);
            Checks.due("of what was left", rejected(1, 1, 1).detour(7, 2), 1);
            Checks.due("of one", rejected(0).detour(1, 9999), 9999);
        });
        edge.test("Returns the greatest part of a pallet", "of this detour, not of an earlier one", () -> {
            ColdChain chain = rejected(1, 1, 1);
            Checks.due("the first detour", chain.detour(1, 90), 90);
            Checks.due("the second detour", chain.detour(6, 7), 4);
        });
        edge.refused("INVALID_ARGUMENT if pallets is not such a set or cost is out of range", "both", Look.INVALID,
            () -> rejected(1), c -> c.detour(0, -1), c -> c.detour(2, 10000), c -> c.detour(1, 10000));
        edge.refused("ILLEGAL_STATE if one of them does not have the state 2", "in the van, accepted, brought back",
            Look.ILLEGAL, Edge::busy, c -> c.detour(8, 0), c -> c.detour(2, 0), c -> c.detour(4, 0));
        edge.refused("ILLEGAL_STATE if one of them does not have the state 2", "together with one that has it",
            Look.ILLEGAL, Edge::busy, c -> c.detour(9, 9999), c -> c.detour(3, 1), c -> c.detour(5, 0), c -> c.detour(15, 0));
        edge.refused("ILLEGAL_STATE if one of them does not have the state 2", "the first, the last of twelve",
            Look.ILLEGAL, PalletEdges::twelve, c -> c.detour(1, 0), c -> c.detour(2048, 0), c -> c.detour(4095, 0));
        edge.refused("ILLEGAL_STATE if one of them does not have the state 2", "brought back a second time",
            Look.ILLEGAL, () -> {
                ColdChain chain = rejected(1, 1);
                chain.detour(2, 10);
                return chain;
            }, c -> c.detour(2, 5), c -> c.detour(3, 5));
    }

    private static void claims() {
        Edge edge = new Edge("Promise 19");
        edge.test("Returns what has been claimed", "nothing without pallets", () -> claimsAre(new ColdChain(), 0, 0, 0));
        edge.names("`cause`: 1 to 3 for what falls to this cause, 0 for all claims together", 0, 3,
            Edge::busy, ColdChain::claims);
        edge.test("Returns the sum", "of each cause and of all", () -> {
            ColdChain chain = Look.withOpenVan(11, 30);
            chain.setNumber(0, 11);
            chain.loadPallet(0, 0, 10, 0, 1);
            chain.loadPallet(0, 1, 10, 0, 2);
            chain.loadPallet(0, 2, 11, 0, 40);
            chain.setProbe(0, 2, 1, 1);
            chain.pass(1);
            chain.door(0, 0);
            chain.pass(1);
            chain.door(0, 1);
            for (int pallet = 0; pallet < 3; pallet++) {
                Checks.due("deliver(" + pallet + ")", chain.deliver(pallet), 2);
            }
            // 1 / 2 of 1 and of 2, each by itself
            claimsAre(chain, 1, 2, 40);
        });
        edge.test("Returns the sum", "the greatest", () -> {
            ColdChain chain = rejected(alike(12, 9999));
            chain.detour(4095, 9999);
            claimsAre(chain, 12 * 9999 + 9999, 0, 0);
        });
        edge.refused("INVALID_ARGUMENT if cause is out of range", "without pallets too", Look.INVALID, ColdChain::new,
            c -> c.claims(-1), c -> c.claims(4), c -> c.claims(Look.LOW), c -> c.claims(Look.HIGH));
    }
}
