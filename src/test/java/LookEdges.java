import java.util.HashSet;
import java.util.Set;

/** Promises 15 to 18 and 20 to 23. */
final class LookEdges {
    private LookEdges() {
    }

    static void run() {
        count();
        van();
        zone();
        pallet();
        log();
        warm();
        warmRows();
        warmEntries();
        minutesLeft();
        aheadAsTold();
        eachAhead();
        longestOpen();
        longestOpenPallets();
    }

    /** A van, added at the time 2, whose zones are as warm as the time: 1 more in each minute. */
    private static ColdChain warming(int minutes) {
        ColdChain chain = new ColdChain();
        chain.pass(2);
        chain.addVan(2, 0);
        chain.setVan(0, 100, 0);
        chain.setProbe(0, 1, 1, 10);
        Edge.pass(chain, minutes);
        return chain;
    }

    /** All nine probes are found, one after the other in each van. */
    private static ColdChain nineFound() {
        ColdChain chain = Edge.threeVans();
        chain.setNumber(2, 1);
        for (int zone = 0; zone < 3; zone++) {
            for (int van = 0; van < 3; van++) {
                chain.setProbe(van, zone, 2, 400);
            }
            Checks.due("pass(1)", chain.pass(1), 3);
            for (int van = 0; van < 3; van++) {
                chain.setProbe(van, zone, 0, 0);
            }
        }
        return chain;
    }

    private static void count() {
        Edge edge = new Edge("Promise 15");
        edge.names("`what`: 0 the number of vans, 1 of pallets, 2 the time, 3 the outside temperature, 4 D, 5 M",
            0, 8, Edge::busy, ColdChain::count);
        edge.test("Returns a number", "the smallest of each", () -> {
            ColdChain chain = new ColdChain();
            int[] due = {0, 0, 0, 200, 30, 3, 0, 0, 0};
            for (int what = 0; what < due.length; what++) {
                Checks.due("count(" + what + ")", chain.count(what), due[what]);
            }
        });
        edge.test("Returns the number", "the greatest of each", () -> {
            Checks.due("vans", Edge.threeVans().count(0), 3);
            Checks.due("pallets", PalletEdges.twelve().count(1), 12);
            Checks.due("time", Edge.at(600).count(2), 600);
            ColdChain chain = new ColdChain();
            chain.setNumber(0, 450);
            chain.setNumber(1, 100);
            chain.setNumber(2, 30);
            Checks.due("outside", chain.count(3), 450);
            Checks.due("D", chain.count(4), 100);
            Checks.due("M", chain.count(5), 30);
            Look.type(chain, "q".repeat(81));
            Checks.due("text", chain.count(6), 80);
            Checks.due("saved states", PalletEdges.twelve().count(7), 6);
        });
        edge.test("8 the number of probes that are found", "none, each of the nine, one repaired", () -> {
            ColdChain chain = nineFound();
            Checks.due("nine", chain.count(8), 9);
            for (int number = 0; number < 9; number++) {
                chain.repair(number / 3, number % 3);
                Checks.due("one less", chain.count(8), 8 - number);
            }
            chain = Edge.closedVan();
            chain.setProbe(0, 0, 2, 400);
            chain.pass(2);
            Checks.due("odd and not found", chain.count(8), 0);
        });
        edge.refused("INVALID_ARGUMENT if what is out of range", "of a new object", Look.INVALID, ColdChain::new,
            c -> c.count(-1), c -> c.count(9), c -> c.count(Look.LOW), c -> c.count(Look.HIGH));
    }

    private static void van() {
        Edge edge = new Edge("Promise 16");
        edge.test("Returns a property of a van", "its own", () -> {
            ColdChain chain = Edge.busy();
            int[][] due = {{0, 5, 1, 8}, {30, 0, 0, 0}};
            for (int van = 0; van < 2; van++) {
                for (int what = 0; what <= 3; what++) {
                    Checks.due("van(" + van + ", " + what + ")", chain.van(van, what), due[van][what]);
                }
            }
        });
        edge.names("`van`: a van", 0, 1, Edge::busy, (c, n) -> c.van(n, 0));
        edge.names("`what`: 0 its set point, 1 its cooling, 2 1 if its door is open and 0 if not", 0, 3, Edge::busy,
            (c, n) -> c.van(1, n));
        edge.test("3 the set of the pallets that are in it", "none, the first and the last of twelve, all", () -> {
            Checks.due("none", Edge.openVan().van(0, 3), 0);
            ColdChain chain = PalletEdges.twelve();
            Checks.due("0 to 8", chain.van(0, 3), 0x1FF);
            Checks.due("9 to 11", chain.van(1, 3), 0xE00);
            for (int pallet = 1; pallet < 11; pallet++) {
                chain.deliver(pallet);
            }
            Checks.due("0", chain.van(0, 3), 1);
            Checks.due("11", chain.van(1, 3), 2048);
        });
        edge.test("Returns the property", "the lowest and the highest", () -> {
            Checks.due("set point", Look.withVan(-300, 30).van(0, 0), -300);
            Checks.due("set point", Look.withVan(100, 30).van(0, 0), 100);
            Checks.due("cooling", Look.withVan(100, 30).van(0, 1), 30);
            Checks.due("cooling", Look.withVan(100, 0).van(0, 1), 0);
        });
        edge.refused("INVALID_ARGUMENT if there is no such van or what is out of range", "without vans; both",
            Look.INVALID, ColdChain::new, c -> c.van(0, 0), c -> c.van(-1, -1), c -> c.van(3, 4));
    }

    private static void zone() {
        Edge edge = new Edge("Promise 17");
        edge.test("Returns a property of a zone", "of a right probe, an odd one, a found one", () -> {
            ColdChain chain = Look.withVan(-20, 5);
            chain.setProbe(0, 1, 1, 50);
            int[][] due = {{-20, 30, 30, 1, 0, 0}, {-20, 30, 30, 1, 0, 1}, {-20, 30, 30, 1, 0, 2}, {-20, 30, -20, 1, 1, 3}};
            for (int minute = 0; minute < 4; minute++) {
                for (int what = 0; what <= 5; what++) {
                    Checks.due("zone(0, 1, " + what + ") at " + minute, chain.zone(0, 1, what), due[minute][what]);
                }
                chain.pass(1);
            }
        });
        edge.names("`van`: a van", 0, 1, Edge::busy, (c, n) -> c.zone(n, 0, 0));
        edge.names("`zone`: 0 to 2", 0, 2, Edge::busy, (c, n) -> c.zone(1, n, 0));
        edge.names("`what`: 0 its temperature, 1 the reading of its probe now, 2 the told temperature now", 0, 5,
            Edge::busy, (c, n) -> c.zone(0, 1, n));
        edge.test("1 the reading of its probe now, 2 the told temperature now", "between the minutes", () -> {
            ColdChain chain = nineFound();
            chain.setProbe(0, 0, 1, 5);
            Checks.due("reading", chain.zone(0, 0, 1), 5);
            Checks.due("told", chain.zone(0, 0, 2), 0);
            Checks.due("told of 5 and 0", chain.zone(0, 1, 2), 2);
            chain.repair(0, 1);
            Checks.due("told of a repaired one", chain.zone(0, 1, 2), 0);
        });
        edge.test("5 in how many minutes up to now, one directly after the other, it was odd", "0 after one that was not",
            () -> {
                ColdChain chain = Edge.closedVan();
                chain.setProbe(0, 2, 2, 400);
                chain.pass(300);
                chain.pass(299);
                Checks.due("599", chain.zone(0, 2, 5), 599);
                chain.setProbe(0, 2, 0, 0);
                Checks.due("at once", chain.zone(0, 2, 5), 599);
                chain.pass(1);
                Checks.due("a minute later", chain.zone(0, 2, 5), 0);
            });
        edge.test("Returns the property", "the lowest and the highest reading", () -> {
            ColdChain chain = Look.withVan(-300, 0);
            chain.setProbe(0, 0, 1, -200);
            Checks.due("lowest", chain.zone(0, 0, 1), -500);
            ColdChain warm = Look.withVan(100, 0);
            warm.setProbe(0, 0, 1, 200);
            Checks.due("highest of a shifted one", warm.zone(0, 0, 1), 300);
        });
        edge.refused("INVALID_ARGUMENT if there is no such van or an argument is out of range", "without vans; all",
            Look.INVALID, ColdChain::new, c -> c.zone(0, 0, 0), c -> c.zone(-1, -1, -1), c -> c.zone(3, 3, 6));
    }

    private static void pallet() {
        Edge edge = new Edge("Promise 18");
        edge.test("Returns a property of a pallet", "of one with all of them", () -> {
            ColdChain chain = PalletEdges.warmed(3, 4, 2, 5, 60);
            chain.deliver(0);
            chain.detour(1, 70);
            int[] due = {0, 0, 10, 5, 60, 3, 3, 4, 9, 2, 70};
            for (int what = 0; what < due.length; what++) {
                Checks.due("pallet(0, " + what + ")", chain.pallet(0, what), due[what]);
            }
        });
        edge.names("`pallet`: a pallet", 0, 3, Edge::busy, (c, n) -> c.pallet(n, 0));
        edge.names("`pallet`: a pallet", 0, 11, PalletEdges::twelve, (c, n) -> c.pallet(n, 0));
        edge.names("`what`: 0 its van, 1 its zone (where it was, if it is not in the van any more), 2 its limit", 0, 10,
            Edge::busy, (c, n) -> c.pallet(3, n));
        edge.test("(where it was, if it is not in the van any more)", "the van and the zone", () -> {
            ColdChain chain = Edge.openVan();
            chain.addVan(0, 5);
            chain.door(1, 1);
            chain.loadPallet(1, 2, -300, 0, 0);
            chain.pass(1);
            chain.deliver(0);
            Checks.due("van", chain.pallet(0, 0), 1);
            Checks.due("zone", chain.pallet(0, 1), 2);
            chain.detour(1, 0);
            Checks.due("van", chain.pallet(0, 0), 1);
            Checks.due("zone", chain.pallet(0, 1), 2);
        });
        edge.test("10 its part of a detour (0 without one)", "in the van, accepted, rejected, brought back", () -> {
            ColdChain chain = Edge.busy();
            int[] due = {0, 0, 50, 0};
            for (int pallet = 0; pallet < due.length; pallet++) {
                Checks.due("part of " + pallet, chain.pallet(pallet, 10), due[pallet]);
            }
        });
        edge.test("Returns the property", "300 open minutes, 300 closed ones, 600 told ones", () -> {
            ColdChain chain = Edge.openVan();
            chain.loadPallet(0, 0, -300, 600, 0);
            chain.pass(300);
            chain.door(0, 0);
            chain.pass(300);
            Checks.due("open", chain.pallet(0, 6), 300);
            Checks.due("closed", chain.pallet(0, 7), 300);
            Checks.due("told", chain.pallet(0, 8), 600);
        });
        edge.refused("INVALID_ARGUMENT if there is no such pallet or what is out of range", "without pallets; both",
            Look.INVALID, Edge::openVan, c -> c.pallet(0, 0), c -> c.pallet(-1, -1), c -> c.pallet(12, 11));
    }

    private static void log() {
        Edge edge = new Edge("Promise 20");
        edge.test("Returns an entry of the log", "of its own van, zone and time", () -> {
            ColdChain chain = warming(3);
            for (int time = 3; time <= 5; time++) {
                for (int zone = 0; zone < 3; zone++) {
                    Checks.due("temperature", chain.log(0, zone, time, 0), time);
                    Checks.due("told", chain.log(0, zone, time, 1), zone == 1 ? time + 10 : time);
                }
            }
        });
        edge.test("Returns an entry of the log", "each van and zone has its own", () -> {
            ColdChain chain = Edge.threeVans();
            chain.setNumber(0, 450);
            chain.setNumber(1, 100);
            for (int number = 0; number < 9; number++) {
                chain.setProbe(number / 3, number % 3, 1, 1 + number);
            }
            for (int van = 0; van < 3; van++) {
                chain.door(van, 1);
            }
            chain.pass(1);
            for (int number = 0; number < 9; number++) {
                int van = number / 3;
                int zone = number % 3;
                Checks.due("temperature of " + number, chain.log(van, zone, 1, 0), chain.zone(van, zone, 0));
                Checks.due("told of " + number, chain.log(van, zone, 1, 1), chain.zone(van, zone, 0) + 1 + number);
            }
        });
        edge.names("`van`: a van", 0, 1, Edge::busy, (c, n) -> c.log(n, 0, 4, 0));
        edge.names("`zone`: 0 to 2", 0, 2, Edge::busy, (c, n) -> c.log(1, n, 4, 0));
        edge.names("`told`: 0 the temperature, 1 the told temperature", 0, 1, Edge::busy, (c, n) -> c.log(1, 2, 4, n));
        edge.test("`time`: 1 or greater", "1, the present one, the greatest there is", () -> {
            Checks.due("1", Edge.at(1).log(0, 2, 1, 0), 23);
            Checks.due("598", warming(596).log(0, 0, 598, 0), 100);
            Checks.due("600", warming(598).log(0, 0, 600, 0), 100);
            Checks.due("far", warming(598).log(0, 0, Look.HIGH, 0), Look.NONE);
        });
        edge.refused("`time`: 1 or greater", "0 and less", Look.INVALID, Edge::busy, c -> c.log(0, 0, 0, 0),
            c -> c.log(0, 0, -1, 0), c -> c.log(0, 0, Look.LOW, 1));
        edge.test("Returns the entry", "it stays as it was written", () -> {
            ColdChain chain = warming(3);
            chain.setProbe(0, 1, 2, 400);
            chain.setVan(0, -300, 30);
            chain.pass(9);
            Checks.due("temperature", chain.log(0, 1, 5, 0), 5);
            Checks.due("told", chain.log(0, 1, 5, 1), 15);
            Checks.due("afterwards", chain.log(0, 1, 6, 0), -25);
        });
        edge.refused("INVALID_ARGUMENT if there is no such van or an argument is out of range", "without vans; all",
            Look.INVALID, ColdChain::new, c -> c.log(0, 0, 1, 0), c -> c.log(-1, 3, 0, 2));
        edge.refused("NONE if the time is greater than the present one", "by one, by far", Look.NONE, () -> warming(3),
            c -> c.log(0, 0, 6, 0), c -> c.log(0, 2, 6, 1), c -> c.log(0, 1, 600, 0), c -> c.log(0, 1, 601, 1),
            c -> c.log(0, 0, Look.HIGH, 0));
        edge.refused("NONE if the time is greater than the present one", "at the time 0", Look.NONE, Edge::closedVan,
            c -> c.log(0, 0, 1, 0));
        edge.refused("or the van was added at this time or later", "at this time, one later", Look.NONE,
            () -> warming(3), c -> c.log(0, 0, 2, 0), c -> c.log(0, 0, 1, 1));
        edge.test("or the van was added at this time or later", "one earlier there is an entry; each van for itself", () -> {
            ColdChain chain = warming(3);
            chain.addVan(50, 0);
            chain.pass(1);
            Checks.due("the first van", chain.log(0, 0, 3, 0), 3);
            Checks.due("the second van", chain.log(1, 0, 5, 0), Look.NONE);
            Checks.due("the second van", chain.log(1, 0, 6, 0), 50);
        });
    }

    private static void warm() {
        Edge edge = new Edge("Promise 21");
        // The entries are 3 to 8 at the times 3 to 8, told ones of the zone 1 are 13 to 18.
        Edge.Maker six = () -> warming(6);
        edge.test("Counts the minutes of the log in which a zone was too warm", "all, some, none", () -> {
            Checks.due("all", six.make().warm(0, 0, 2, 0, 8, 0), 6);
            Checks.due("some", six.make().warm(0, 0, 5, 0, 8, 0), 3);
            Checks.due("none", six.make().warm(0, 0, 8, 0, 8, 0), 0);
            Checks.due("without minutes", Edge.closedVan().warm(0, 0, -300, 0, 600, 0), 0);
        });
        edge.names("`van`: a van", 0, 1, Edge::busy, (c, n) -> c.warm(n, 0, 0, 0, 4, 0));
        edge.names("`zone`: 0 to 2", 0, 2, Edge::busy, (c, n) -> c.warm(0, n, 0, 0, 4, 0));
        edge.names("`limit`: -300 to 300", -300, 300, Edge::busy, (c, n) -> c.warm(0, 0, n, 0, 4, 0));
        edge.names("`told`: 0 by the temperature, 1 by the told temperature", 0, 1, Edge::busy,
            (c, n) -> c.warm(0, 0, 0, 0, 4, n));
        edge.test("`told`: 0 by the temperature, 1 by the told temperature", "they differ", () -> {
            Checks.due("0", six.make().warm(0, 1, 14, 0, 8, 0), 0);
            Checks.due("1", six.make().warm(0, 1, 14, 0, 8, 1), 4);
        });
        edge.test("`from`: 0 or greater: the time before the first minute", "0, the last one, beyond", () -> {
            Checks.due("from 0", six.make().warm(0, 0, -300, 0, 8, 0), 6);
            Checks.due("from 3", six.make().warm(0, 0, -300, 3, 8, 0), 5);
            Checks.due("from 7", six.make().warm(0, 0, -300, 7, 8, 0), 1);
            Checks.due("from 8", six.make().warm(0, 0, -300, 8, 9, 0), 0);
            Checks.due("from far", six.make().warm(0, 0, -300, 601, Look.HIGH, 0), 0);
        });
        edge.refused("`from`: 0 or greater: the time before the first minute", "less", Look.INVALID, six,
            c -> c.warm(0, 0, 0, -1, 8, 0), c -> c.warm(0, 0, 0, Look.LOW, 8, 0), c -> c.warm(0, 0, 0, -1, -1, 0));
        edge.test("`to`: from or greater: the time of the last minute", "as from, one more, far", () -> {
            Checks.due("4 to 4", six.make().warm(0, 0, -300, 4, 4, 0), 0);
            Checks.due("0 to 0", six.make().warm(0, 0, -300, 0, 0, 0), 0);
            Checks.due("4 to 5", six.make().warm(0, 0, -300, 4, 5, 0), 1);
            Checks.due("0 to 3", six.make().warm(0, 0, -300, 0, 3, 0), 1);
            Checks.due("0 to 7", six.make().warm(0, 0, -300, 0, 7, 0), 5);
            Checks.due("0 to far", six.make().warm(0, 0, -300, 0, Look.HIGH, 0), 6);
            Checks.due("far to far", six.make().warm(0, 0, -300, Look.HIGH, Look.HIGH, 0), 0);
        });
        edge.refused("`to`: from or greater: the time of the last minute", "less than from", Look.INVALID, six,
            c -> c.warm(0, 0, 0, 4, 3, 0), c -> c.warm(0, 0, 0, 1, 0, 0), c -> c.warm(0, 0, 0, 0, -1, 0),
            c -> c.warm(0, 0, 0, Look.HIGH, Look.LOW, 0), c -> c.warm(0, 0, 0, 601, 600, 0));
    }

    /** Three open vans, the third added a minute later, each zone as warm as no other, for 9 minutes. */
    private static ColdChain nineZones() {
        ColdChain chain = Look.withOpenVan(-300, 0);
        chain.addVan(-100, 0);
        chain.door(1, 1);
        chain.setNumber(0, 450);
        chain.setNumber(1, 100);
        chain.pass(1);
        chain.addVan(100, 0);
        chain.door(2, 1);
        for (int number = 0; number < 9; number++) {
            chain.setProbe(number / 3, number % 3, 1, 10 * number - 100);
        }
        chain.pass(8);
        return chain;
    }

    private static int above(ColdChain chain, int row, int limit) {
        int entries = 0;
        for (int time = 1; time <= 9; time++) {
            entries += chain.log(row / 6, row / 2 % 3, time, row % 2) > limit ? 1 : 0;
        }
        return entries;
    }

    private static void warmRows() {
        Edge edge = new Edge("Promise 21");
        edge.test("Counts the minutes of the log in which a zone was too warm", "each row of each van has its own", () -> {
            ColdChain chain = nineZones();
            Set<String> rows = new HashSet<>();
            for (int row = 0; row < 18; row++) {
                StringBuilder counted = new StringBuilder();
                for (int limit = -140; limit <= 300; limit += 40) {
                    int minutes = chain.warm(row / 6, row / 2 % 3, limit, 0, 9, row % 2);
                    Checks.due("row " + row + " above " + limit, minutes, above(nineZones(), row, limit));
                    counted.append(minutes);
                }
                rows.add(counted.toString());
            }
            Checks.due("rows that differ", rows.size(), 18);
        });
    }

    private static void warmEntries() {
        Edge edge = new Edge("Promise 21");
        edge.test("that are above the limit", "at the limit they are not", () -> {
            Checks.due("above 7", warming(6).warm(0, 2, 7, 0, 8, 0), 1);
            Checks.due("above 8", warming(6).warm(0, 2, 8, 0, 8, 0), 0);
            Checks.due("above -300", Look.withVan(-300, 0).warm(0, 0, -300, 0, 600, 0), 0);
            ColdChain cold = Look.withVan(-300, 0);
            cold.pass(1);
            Checks.due("-300 above -300", cold.warm(0, 0, -300, 0, 600, 0), 0);
        });
        edge.test("Returns the number of entries at times greater than from and up to to", "none before the van was added",
            () -> {
                ColdChain chain = warming(3);
                chain.addVan(100, 0);
                chain.pass(2);
                Checks.due("the second van", chain.warm(1, 0, 99, 0, 600, 0), 2);
                Checks.due("the second van early", chain.warm(1, 0, -300, 0, 5, 0), 0);
                Checks.due("the first van early", chain.warm(0, 0, -300, 0, 2, 0), 0);
            });
        edge.test("Returns the number of entries at times greater than from and up to to", "600 of them", () -> {
            Checks.due("all", Edge.at(600).warm(0, 0, -300, 0, 600, 0), 600);
            Checks.due("all but one", Edge.at(600).warm(0, 0, -300, 1, 600, 0), 599);
            Checks.due("the last", Edge.at(600).warm(0, 0, -300, 599, 600, 0), 1);
        });
        edge.refused("INVALID_ARGUMENT if there is no such van or an argument is out of range", "without vans; all",
            Look.INVALID, ColdChain::new, c -> c.warm(0, 0, 0, 0, 0, 0), c -> c.warm(-1, 3, 301, -1, -2, 2));
    }

    /** At the time 0 or 600, in an open van, a pallet with one told minute in each minute. */
    private static ColdChain heated(int time, int allowance) {
        ColdChain chain = Edge.at(time);
        chain.loadPallet(0, 1, -300, allowance, 0);
        return chain;
    }

    private static void minutesLeft() {
        Edge edge = new Edge("Promise 22");
        edge.test("Tells after how many minutes a pallet would be rejected, if nothing else is done",
            "the door stays as it is, probes are found on the way", () -> {
                ColdChain chain = Edge.openVan();
                chain.loadPallet(0, 1, 50, 2, 0);
                chain.loadPallet(0, 1, 50, 1, 0);
                chain.setNumber(0, 0);
                chain.setProbe(0, 1, 2, 400);
                Checks.due("2 told minutes, allowance 2", chain.minutesLeft(0), Look.NONE);
                Checks.due("2 told minutes, allowance 1", chain.minutesLeft(1), 2);
                chain.door(0, 0);
                Checks.due("closed", chain.minutesLeft(1), 2);
                chain.repair(0, 1);
                Checks.due("repaired", chain.minutesLeft(1), Look.NONE);
                Checks.due("count(8)", chain.count(8), 0);
            });
        edge.names("`pallet`: a pallet", 0, 11, PalletEdges::twelve, ColdChain::minutesLeft);
        edge.test("Returns 0 if it would be rejected now", "with one told minute too many, not with as many as allowed", () -> {
            Checks.due("5 told, 4 allowed", PalletEdges.warmed(5, 0, 0, 4, 0).minutesLeft(0), 0);
            Checks.due("5 told, 5 allowed", PalletEdges.warmed(5, 0, 0, 5, 0).minutesLeft(0), 1);
            ColdChain chain = PalletEdges.warmed(5, 0, 0, 4, 0);
            chain.door(0, 0);
            Checks.due("with a closed door", chain.minutesLeft(0), 0);
        });
        edge.test("otherwise the smallest number of minutes, 1 to 300", "1, 2, 299, 300", () -> {
            for (int minutes : new int[] {1, 2, 299, 300}) {
                Checks.due("allowance " + (minutes - 1), heated(0, minutes - 1).minutesLeft(0), minutes);
            }
        });
        edge.refused("INVALID_ARGUMENT if there is no such pallet", "without pallets", Look.INVALID, Edge::openVan,
            c -> c.minutesLeft(0), c -> c.minutesLeft(-1), c -> c.minutesLeft(11));
        edge.refused("ILLEGAL_STATE if it is not in a van", "rejected, accepted, brought back", Look.ILLEGAL, Edge::busy,
            c -> c.minutesLeft(0), c -> c.minutesLeft(1), c -> c.minutesLeft(2));
        edge.refused("NONE if there is none", "only after 301 minutes", Look.NONE, () -> heated(0, 300),
            c -> c.minutesLeft(0));
        edge.refused("NONE if there is none", "never too warm", Look.NONE, PalletEdges::fullZone, c -> c.minutesLeft(0));
        edge.test("NONE if there is none", "allowed 600 minutes", () -> {
            Checks.due("at the time 0", heated(0, 600).minutesLeft(0), Look.NONE);
            Checks.due("at the time 600", heated(600, 300).minutesLeft(0), Look.NONE);
            ColdChain chain = heated(0, 600);
            chain.pass(300);
            Checks.due("300 told ones", chain.minutesLeft(0), Look.NONE);
            chain.pass(1);
            Checks.due("301 told ones", chain.minutesLeft(0), 300);
        });
    }

    /**
     * A van at 0 that stays at 0 with a closed door. Each open minute is told of each zone with a
     * limit of 0, and one closed minute cools all of it to 0 again.
     */
    private static ColdChain quick(int allowance) {
        ColdChain chain = Look.withOpenVan(0, 30);
        chain.setNumber(0, 34);
        chain.loadPallet(0, 0, 0, allowance, 0);
        return chain;
    }

    /** A pallet in the zone 1, with a limit of 0, where it is 5 and the probe reads so much more. */
    private static ColdChain misread(int shift, int allowance) {
        ColdChain chain = Look.withOpenVan(5, 0);
        chain.setNumber(0, 5);
        chain.loadPallet(0, 1, 0, allowance, 0);
        chain.setProbe(0, 1, 1, shift);
        return chain;
    }

    private static void aheadAsTold() {
        Edge left = new Edge("Promise 22");
        left.test("Tells after how many minutes a pallet would be rejected", "by told minutes, not by warm ones", () -> {
            Checks.due("warm and told", misread(0, 3).minutesLeft(0), 4);
            Checks.due("warm alone", misread(-5, 3).minutesLeft(0), Look.NONE);
            ColdChain chain = misread(-5, 3);
            chain.pass(9);
            Checks.due("more warm minutes than allowed", chain.minutesLeft(0), Look.NONE);
        });
        Edge open = new Edge("Promise 23");
        String words = "no pallet that is in the van has more told minutes than its allowance";
        open.test(words, "told ones, not warm ones", () -> {
            Checks.due("warm and told", misread(0, 3).longestOpen(0), Look.NONE);
            Checks.due("warm alone", misread(-5, 3).longestOpen(0), 60);
            ColdChain chain = misread(-5, 3);
            chain.pass(9);
            Checks.due("more warm minutes than allowed", chain.longestOpen(0), 60);
        });
        open.test(words, "told ones alone, of a probe that is found on the way", () -> {
            for (int allowance = 1; allowance <= 2; allowance++) {
                ColdChain chain = Look.withOpenVan(0, 0);
                chain.setNumber(0, 0);
                chain.loadPallet(0, 1, 0, allowance, 0);
                chain.setProbe(0, 1, 2, 400);
                Checks.due("allowance " + allowance, chain.longestOpen(0), allowance == 2 ? 60 : Look.NONE);
                Checks.due("count(8)", chain.count(8), 0);
            }
        });
    }

    private static void eachAhead() {
        Edge left = new Edge("Promise 22");
        left.test("otherwise the smallest number of minutes, 1 to 300", "each of twelve pallets in three vans", () -> {
            ColdChain chain = PalletEdges.threeOpen();
            for (int k = 0; k < 12; k++) {
                chain.loadPallet(k % 3, k / 3 % 3, -300, 20 - k, 0);
            }
            for (int passed = 0; passed < 3; passed++) {
                for (int k = 0; k < 12; k++) {
                    Checks.due("minutesLeft(" + k + ")", chain.minutesLeft(k), 21 - k - passed);
                }
                chain.pass(1);
            }
            chain.undo();
            Checks.due("after an undo", chain.minutesLeft(11), 8);
        });
        Edge open = new Edge("Promise 23");
        open.test("Returns the greatest number, 0 to 60, for which that is so", "each van by its own pallets", () -> {
            ColdChain chain = new ColdChain();
            chain.setNumber(0, 34);
            for (int van = 0; van < 3; van++) {
                chain.addVan(0, 30);
                chain.door(van, 1);
            }
            for (int k = 0; k < 9; k++) {
                chain.loadPallet(k % 3, 1, 300, 0, 0);
            }
            for (int van = 0; van < 3; van++) {
                Checks.due("without limits", chain.longestOpen(van), 60);
                chain.loadPallet(van, 0, 0, 10 * van + 7, 0);
            }
            for (int van = 0; van < 3; van++) {
                Checks.due("longestOpen(" + van + ")", chain.longestOpen(van), 10 * van + 7);
            }
        });
    }

    private static void longestOpen() {
        Edge edge = new Edge("Promise 23");
        edge.test("Finds for how many minutes the door of a van may be open from now on", "each from 0 to 60, and more", () -> {
            for (int minutes = 0; minutes <= 62; minutes++) {
                int allowance = minutes == 62 ? 600 : minutes;
                int due = Math.min(allowance, 60);
                Checks.due("allowance " + allowance, quick(allowance).longestOpen(0), due);
                ColdChain closed = quick(allowance);
                closed.door(0, 0);
                Checks.due("closed, allowance " + allowance, closed.longestOpen(0), due);
            }
        });
        edge.test("(with 0, it is closed at once, or stays so)", "0 from an open door and from a closed one", () -> {
            ColdChain chain = quick(2);
            chain.pass(2);
            Checks.due("no minute is left", chain.longestOpen(0), 0);
            chain.door(0, 0);
            Checks.due("closed", chain.longestOpen(0), 0);
        });
        edge.test("so that 60 minutes from now no pallet that is in the van has more told minutes than its allowance",
            "too warm in the minute 60, only in the minute 61", () -> {
                for (int limit = 59; limit <= 60; limit++) {
                    ColdChain chain = Look.withOpenVan(0, 0);
                    chain.setNumber(0, 450);
                    chain.setVan(0, 100, 0);
                    chain.loadPallet(0, 1, limit, 0, 0);
                    Checks.due("limit " + limit, chain.longestOpen(0), limit == 59 ? Look.NONE : 0);
                }
            });
    }

    private static void longestOpenPallets() {
        Edge edge = new Edge("Promise 23");
        edge.test("no pallet that is in the van", "the strictest one tells, whichever it is", () -> {
            ColdChain chain = quick(9);
            chain.loadPallet(0, 2, 0, 7, 0);
            Checks.due("the last", chain.longestOpen(0), 7);
            chain.loadPallet(0, 1, 0, 8, 0);
            Checks.due("between", chain.longestOpen(0), 7);
            chain.deliver(1);
            Checks.due("not the delivered one", chain.longestOpen(0), 8);
            chain.deliver(0);
            chain.deliver(2);
            Checks.due("none", chain.longestOpen(0), 60);
        });
        edge.test("no pallet that is in the van", "not the rejected ones, brought back or not", () -> {
            ColdChain chain = quick(0);
            chain.loadPallet(0, 0, 0, 9, 0);
            chain.pass(1);
            Checks.due("overdue in the van", chain.longestOpen(0), Look.NONE);
            Checks.due("deliver(0)", chain.deliver(0), 2);
            Checks.due("rejected", chain.longestOpen(0), 8);
            chain.detour(1, 0);
            Checks.due("brought back", chain.longestOpen(0), 8);
        });
        edge.test("no pallet that is in the van", "not the ones of other vans", () -> {
            ColdChain chain = quick(5);
            chain.addVan(0, 30);
            chain.door(1, 1);
            chain.loadPallet(1, 0, -300, 0, 0);
            Checks.due("van 0", chain.longestOpen(0), 5);
            Checks.due("van 1", chain.longestOpen(1), Look.NONE);
            chain.pass(1);
            Checks.due("van 0, where that of van 1 is overdue", chain.longestOpen(0), 4);
        });
        edge.names("`van`: a van", 0, 2, Edge::threeVans, ColdChain::longestOpen);
        edge.test("Returns the greatest number, 0 to 60, for which that is so (perhaps not for all smaller ones)",
            "9 to 20 are so, 0 to 8 are not", () -> {
                ColdChain chain = Look.withOpenVan(0, 0);
                chain.setNumber(0, 450);
                chain.pass(5);
                Checks.isTrue("zones", Look.zones(chain, 0, 0).equals("76 128 189"));
                chain.setVan(0, -50, 5);
                chain.setNumber(0, -100);
                chain.loadPallet(0, 1, 9, 11, 0);
                chain.loadPallet(0, 0, -16, 20, 0);
                Checks.due("longestOpen(0)", chain.longestOpen(0), 20);
            });
        edge.refused("INVALID_ARGUMENT if there is no such van", "without vans", Look.INVALID, ColdChain::new,
            c -> c.longestOpen(0), c -> c.longestOpen(-1), c -> c.longestOpen(2));
        edge.refused("NONE if there is none", "overdue now; too warm with a closed door", Look.NONE, () -> {
            ColdChain chain = quick(2);
            chain.pass(3);
            return chain;
        }, c -> c.longestOpen(0));
        edge.refused("NONE if there is none", "too warm with a closed door", Look.NONE, () -> {
            ColdChain chain = Edge.openVan();
            chain.loadPallet(0, 0, -1, 59, 0);
            return chain;
        }, c -> c.longestOpen(0));
    }
}
