/** What the document says of probes, and promises 5 and 6. */
final class ProbeEdges {
    private static final String FOUND = "has been so in at least M minutes one directly after the other (this one included),"
        + " it is found";

    private ProbeEdges() {
    }

    static void run() {
        probes();
        odd();
        found();
        patience();
        staysFound();
        told();
        setProbe();
        repair();
    }

    /** A closed van at 0 with shifted probes, a minute later. */
    private static ColdChain shifted(int difference, int first, int second, int third) {
        ColdChain chain = Edge.closedVan();
        chain.setNumber(1, difference);
        chain.setProbe(0, 0, 1, first);
        chain.setProbe(0, 1, 1, second);
        chain.setProbe(0, 2, 1, third);
        chain.pass(1);
        return chain;
    }

    private static void oddAre(int difference, int first, int second, int third, String due) {
        String got = Look.zones(shifted(difference, first, second, third), 0, 5);
        Checks.isTrue(first + " " + second + " " + third + " with D " + difference + ": " + got, got.equals(due));
    }

    /** A closed van at 0 with this patience and one probe that is always odd. */
    private static ColdChain patient(int patience) {
        ColdChain chain = Edge.closedVan();
        chain.setNumber(2, patience);
        chain.setProbe(0, 1, 2, 400);
        return chain;
    }

    private static void probes() {
        Edge edge = new Edge("Probes");
        edge.test("Each zone has a probe", "each of the nine for itself", () -> {
            for (int number = 0; number < 9; number++) {
                ColdChain chain = Edge.threeVans();
                chain.setProbe(number / 3, number % 3, 2, 450);
                for (int other = 0; other < 9; other++) {
                    Checks.due("mode of " + other, chain.zone(other / 3, other % 3, 3), other == number ? 2 : 0);
                }
            }
        });
        edge.test("It is right (at first; it reads the temperature)", "the lowest and the highest", () -> {
            for (int setPoint : new int[] {-300, 0, 100}) {
                ColdChain chain = Look.withVan(setPoint, 0);
                Checks.due("mode", chain.zone(0, 0, 3), 0);
                Checks.due("reading", chain.zone(0, 0, 1), setPoint);
            }
        });
        edge.range("shifted by an amount from -200 to 200 (it reads the temperature plus this amount)", -200, 200,
            Edge::closedVan, (c, n) -> c.setProbe(0, 2, 1, n), c -> c.zone(0, 2, 1));
        edge.test("it reads the temperature plus this amount", "the lowest, the highest, and as it changes", () -> {
            ColdChain chain = Look.withVan(-300, 0);
            chain.setProbe(0, 0, 1, -200);
            Checks.due("lowest", chain.zone(0, 0, 1), -500);
            chain.setVan(0, 100, 0);
            chain.pass(7);
            Checks.due("seven more", chain.zone(0, 0, 1), -493);
        });
        edge.range("or stuck at a value from -300 to 450 (it reads this value)", -300, 450,
            Edge::closedVan, (c, n) -> c.setProbe(0, 2, 2, n), c -> c.zone(0, 2, 1));
        edge.test("(it reads this value)", "as the temperature changes", () -> {
            ColdChain chain = Edge.openVan();
            chain.setProbe(0, 0, 2, 7);
            chain.pass(20);
            Checks.due("reading", chain.zone(0, 0, 1), 7);
        });
    }

    private static void odd() {
        Edge edge = new Edge("Probes");
        String differs = "A probe is odd in a minute if its reading differs by more than D from that of each of the other"
            + " two probes of its van";
        edge.test(differs, "by D it is not, by one more it is, both ways", () -> {
            oddAre(30, 0, 30, 0, "0 0 0");
            oddAre(30, 0, 31, 0, "0 1 0");
            oddAre(30, 0, -30, 0, "0 0 0");
            oddAre(30, 0, -31, 0, "0 1 0");
        });
        edge.test(differs, "by D from one of them it is not, whichever it is", () -> {
            oddAre(30, 0, 31, 1, "0 0 0");
            oddAre(30, 1, 31, 0, "0 0 0");
            oddAre(30, 31, 0, 1, "0 0 0");
            oddAre(30, 0, 1, 31, "0 0 0");
            oddAre(30, 0, 1, 32, "0 0 1");
        });
        edge.test(differs, "far from one and near to the other", () -> oddAre(30, 0, 100, 100, "1 0 0"));
        edge.test("of its van", "the probes of other vans do not tell", () -> {
            ColdChain chain = Look.withVan(-100, 0);
            chain.addVan(100, 0);
            chain.addVan(0, 0);
            Checks.due("pass(9)", chain.pass(9), 0);
            Checks.due("zone(1, 0, 5)", chain.zone(1, 0, 5), 0);
        });
        edge.test("these two differ by at most D from each other", "by D it is odd, by one more it is not", () -> {
            oddAre(30, 31, 0, -30, "1 0 0");
            oddAre(30, 31, 0, -31, "0 0 0");
            oddAre(30, 0, 31, -30, "0 1 0");
            oddAre(30, 0, 31, -31, "0 0 0");
            oddAre(30, -30, 0, 31, "0 0 1");
        });
        edge.range("where D is the difference, 5 to 100 (at first 30)", 5, 100, Edge::busy,
            (c, n) -> c.setNumber(1, n), c -> c.count(4));
        edge.test("where D is the difference, 5 to 100 (at first 30)", "the smallest and the greatest tell", () -> {
            oddAre(5, 5, 0, 0, "0 0 0");
            oddAre(5, 6, 0, 0, "1 0 0");
            oddAre(100, 100, 0, 0, "0 0 0");
            oddAre(100, 101, 0, 0, "1 0 0");
        });
        edge.test("(at first 30)", "of a new object", () -> {
            Checks.due("count(4)", new ColdChain().count(4), 30);
            ColdChain chain = Edge.closedVan();
            chain.setProbe(0, 0, 1, 30);
            chain.setNumber(2, 1);
            Checks.due("shifted by 30", chain.pass(1), 0);
            chain.setProbe(0, 0, 1, 31);
            Checks.due("shifted by 31", chain.pass(1), 1);
        });
    }

    private static void found() {
        Edge edge = new Edge("Probes");
        edge.test(FOUND, "with M 1, 2 and 30: not one minute earlier", () -> {
            for (int patience : new int[] {1, 2, 3, 30}) {
                ColdChain chain = patient(patience);
                for (int minute = 1; minute < patience; minute++) {
                    Checks.due("minute " + minute + " with M " + patience, chain.pass(1), 0);
                }
                Checks.due("found before", chain.count(8), 0);
                Checks.due("minute " + patience, chain.pass(1), 1);
                Checks.due("found", chain.zone(0, 1, 4), 1);
            }
        });
        edge.test(FOUND, "a minute between in which it is not odd", () -> {
            ColdChain chain = patient(3);
            chain.pass(2);
            chain.setProbe(0, 1, 0, 0);
            chain.pass(1);
            Checks.due("odd minutes", chain.zone(0, 1, 5), 0);
            chain.setProbe(0, 1, 2, 400);
            Checks.due("two minutes", chain.pass(2), 0);
            Checks.due("the third", chain.pass(1), 1);
        });
    }

    private static void patience() {
        Edge edge = new Edge("Probes");
        edge.test(FOUND, "a patience that becomes smaller tells in the next odd minute", () -> {
            ColdChain chain = patient(30);
            chain.pass(9);
            chain.setNumber(2, 5);
            Checks.due("at once", chain.count(8), 0);
            Checks.due("a minute later", chain.pass(1), 1);
            ColdChain right = patient(30);
            right.pass(9);
            right.setNumber(2, 5);
            right.setProbe(0, 1, 0, 0);
            Checks.due("a minute later, not odd", right.pass(1), 0);
        });
        edge.test(FOUND, "a patience that becomes greater tells too", () -> {
            ColdChain chain = patient(3);
            chain.pass(2);
            chain.setNumber(2, 30);
            Checks.due("to 29", chain.pass(27), 0);
            Checks.due("the thirtieth", chain.pass(1), 1);
        });
        edge.range("where M is the patience, 1 to 30 (at first 3)", 1, 30, Edge::busy,
            (c, n) -> c.setNumber(2, n), c -> c.count(5));
        edge.test("(at first 3)", "of a new object", () -> {
            Checks.due("count(5)", new ColdChain().count(5), 3);
            ColdChain chain = Edge.closedVan();
            chain.setProbe(0, 1, 2, 400);
            Checks.due("two minutes", chain.pass(2), 0);
            Checks.due("the third", chain.pass(1), 1);
        });
    }

    private static void staysFound() {
        Edge edge = new Edge("Probes");
        edge.test("it stays found until it is repaired", "right again, with a greater patience, 300 minutes on", () -> {
            ColdChain chain = patient(1);
            chain.pass(1);
            chain.setProbe(0, 1, 0, 0);
            chain.setNumber(2, 30);
            chain.setNumber(1, 100);
            chain.pass(300);
            Checks.due("found", chain.zone(0, 1, 4), 1);
            Checks.due("odd minutes", chain.zone(0, 1, 5), 0);
            chain.repair(0, 1);
            Checks.due("repaired", chain.zone(0, 1, 4), 0);
        });
        edge.test("(Probes that are found go on being read and compared.)", "they are odd on", () -> {
            ColdChain chain = patient(3);
            chain.pass(300);
            Checks.due("odd minutes", chain.zone(0, 1, 5), 300);
            Checks.due("reading", chain.zone(0, 1, 1), 400);
        });
        edge.test("(Probes that are found go on being read and compared.)", "others are found by them", () -> {
            ColdChain chain = patient(1);
            chain.pass(1);
            chain.setProbe(0, 0, 2, 400);
            Checks.due("the last right one", chain.pass(1), 1);
            Checks.isTrue("the second and the third", Look.zones(chain, 0, 4).equals("0 1 1"));
        });
    }

    private static void told() {
        Edge edge = new Edge("Probes");
        edge.test("The told temperature of a zone is the reading of its probe, as long as it is not found",
            "odd, one minute short of the patience", () -> {
                ColdChain chain = patient(3);
                chain.pass(2);
                Checks.due("told", chain.zone(0, 1, 2), 400);
                chain.pass(1);
                Checks.due("told when found", chain.zone(0, 1, 2), 0);
            });
        String half = "otherwise it is half of the sum of the readings of the other two probes of the van, rounded down";
        edge.test(half, "sums of -3 to 3", () -> {
            int[] due = {-2, -1, -1, 0, 0, 1, 1};
            for (int sum = -3; sum <= 3; sum++) {
                halved(1, sum, 0, due[sum + 3]);
                halved(0, sum - 7, 7, due[sum + 3]);
                halved(2, 200, sum - 200, due[sum + 3]);
            }
        });
        edge.test(half, "the farthest sums", () -> {
            halved(0, -300, -300, -300);
            halved(0, -300, -299, -300);
            halved(2, 450, 450, 450);
            halved(2, 449, 450, 449);
        });
        edge.test(half, "the readings, not what is told, where these are found too", () -> {
            ColdChain chain = patient(1);
            chain.pass(1);
            chain.setProbe(0, 0, 2, 400);
            chain.pass(1);
            // readings 400 400 0; the second and the third are found
            Checks.isTrue("told " + Look.zones(chain, 0, 2), Look.zones(chain, 0, 2).equals("400 200 400"));
        });
    }

    /** The found probe of this zone is told by the others, which are stuck at these values. */
    private static void halved(int zone, int lower, int higher, int due) {
        ColdChain chain = Edge.closedVan();
        chain.setNumber(2, 1);
        chain.setProbe(0, zone, 2, 300);
        chain.pass(1);
        chain.setProbe(0, zone == 0 ? 1 : 0, 2, lower);
        chain.setProbe(0, zone == 2 ? 1 : 2, 2, higher);
        Checks.due("half of " + lower + " and " + higher, chain.zone(0, zone, 2), due);
    }

    private static void setProbe() {
        Edge edge = new Edge("Promise 5");
        edge.test("Makes a probe right, shifted or stuck", "one after the other", () -> {
            ColdChain chain = Look.withVan(10, 0);
            chain.setProbe(0, 1, 2, 50);
            Checks.due("stuck", chain.zone(0, 1, 1), 50);
            chain.setProbe(0, 1, 1, 50);
            Checks.due("shifted", chain.zone(0, 1, 1), 60);
            chain.setProbe(0, 1, 0, 0);
            Checks.due("right", chain.zone(0, 1, 1), 10);
        });
        edge.test("(Whether it is found, and how often it was odd, stays.)", "of one that is found", () -> {
            for (int mode = 0; mode <= 2; mode++) {
                ColdChain chain = patient(3);
                chain.pass(4);
                chain.setProbe(0, 1, mode, 0);
                Checks.due("found", chain.zone(0, 1, 4), 1);
                Checks.due("odd minutes", chain.zone(0, 1, 5), 4);
            }
        });
        edge.test("(Whether it is found, and how often it was odd, stays.)", "of one that is nearly found", () -> {
            ColdChain chain = patient(3);
            chain.pass(2);
            chain.setProbe(0, 1, 1, -200);
            Checks.due("found", chain.zone(0, 1, 4), 0);
            Checks.due("odd minutes", chain.zone(0, 1, 5), 2);
            Checks.due("the third odd minute", chain.pass(1), 1);
        });
        edge.names("`van`: a van", 0, 1, Edge::busy, (c, n) -> c.setProbe(n, 0, 0, 0));
        edge.names("`zone`: 0 to 2", 0, 2, Edge::busy, (c, n) -> c.setProbe(0, n, 0, 0));
        edge.range("`mode`: 0 right, 1 shifted, 2 stuck", 0, 2, Edge::busy,
            (c, n) -> c.setProbe(0, 1, n, 0), c -> c.zone(0, 1, 3));
        String value = "`value`: 0 for a right one, otherwise the amount or the value, in its range";
        edge.names(value, 0, 0, Edge::closedVan, (c, n) -> c.setProbe(0, 2, 0, n));
        edge.range(value, -200, 200, Edge::closedVan, (c, n) -> c.setProbe(0, 1, 1, n), c -> c.zone(0, 1, 1));
        edge.range(value, -300, 450, Edge::closedVan, (c, n) -> c.setProbe(0, 0, 2, n), c -> c.zone(0, 0, 1));
        edge.refused(value, "a right one of a stuck or shifted one takes 0 alone", Look.INVALID, Edge::busy,
            c -> c.setProbe(0, 1, 0, 90), c -> c.setProbe(0, 1, 0, 1), c -> c.setProbe(0, 1, 1, 300));
        edge.test("Returns the previous mode", "each of the three", () -> {
            ColdChain chain = Edge.closedVan();
            Checks.due("right", chain.setProbe(0, 1, 1, 200), 0);
            Checks.due("shifted", chain.setProbe(0, 1, 2, 200), 1);
            Checks.due("stuck", chain.setProbe(0, 1, 2, -200), 2);
            Checks.due("stuck", chain.setProbe(0, 1, 0, 0), 2);
            Checks.due("right", chain.setProbe(0, 1, 0, 0), 0);
        });
        edge.refused("INVALID_ARGUMENT if there is no such van or an argument is out of range", "without vans; all wrong",
            Look.INVALID, ColdChain::new, c -> c.setProbe(0, 0, 0, 0), c -> c.setProbe(-1, 3, 3, 1000));
    }

    private static void repair() {
        Edge edge = new Edge("Promise 6");
        edge.test("Repairs a probe: it is right, not found, and was not odd", "that probe alone", () -> {
            ColdChain chain = patient(1);
            chain.setProbe(0, 0, 1, 5);
            chain.pass(1);
            chain.repair(0, 1);
            int[] due = {0, 0, 0, 0, 0, 0};
            for (int what = 0; what < due.length; what++) {
                Checks.due("zone(0, 1, " + what + ")", chain.zone(0, 1, what), due[what]);
            }
            Checks.due("another one", chain.zone(0, 0, 3), 1);
        });
        edge.test("was not odd", "it needs the whole patience again", () -> {
            ColdChain chain = patient(3);
            chain.pass(2);
            chain.repair(0, 1);
            chain.setProbe(0, 1, 2, 400);
            Checks.due("two minutes", chain.pass(2), 0);
            Checks.due("the third", chain.pass(1), 1);
        });
        edge.names("`van`: a van", 0, 1, Edge::busy, (c, n) -> c.repair(n, 1));
        edge.names("`zone`: 0 to 2", 0, 2, Edge::busy, (c, n) -> c.repair(0, n));
        edge.test("Returns 1 if it was found, otherwise 0", "right, shifted, nearly found, found, repaired", () -> {
            ColdChain chain = patient(3);
            chain.setProbe(0, 2, 1, 5);
            Checks.due("right", chain.repair(0, 0), 0);
            Checks.due("shifted", chain.repair(0, 2), 0);
            chain.pass(2);
            Checks.due("nearly found", chain.repair(0, 1), 0);
            chain.setProbe(0, 1, 2, 400);
            chain.pass(3);
            Checks.due("found", chain.repair(0, 1), 1);
            Checks.due("repaired", chain.repair(0, 1), 0);
        });
        edge.refused("INVALID_ARGUMENT if there is no such van or zone is out of range", "without vans; both wrong",
            Look.INVALID, ColdChain::new, c -> c.repair(0, 0), c -> c.repair(-1, 3));
    }
}
