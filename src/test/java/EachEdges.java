/**
 * What holds for one van, zone, pallet or command holds for each: the same story is told of each of
 * them, with the others beside it.
 */
final class EachEdges {
    private static final String INVALID = "`INVALID_ARGUMENT = -100001`: An argument is out of range, or names something"
        + " that does not exist";

    private EachEdges() {
    }

    static void run() {
        probes();
        vans();
        pallets();
        commands();
        errors();
        loads();
        times();
        noSuchVan();
        noSuchZone();
        noSuchPallet();
        noSuchProperty();
    }

    private static void probes() {
        Edge edge = new Edge("Probes");
        for (int number = 0; number < 9; number++) {
            int van = number / 3;
            int zone = number % 3;
            edge.test("Each zone has a probe", "zone " + zone + " of van " + van, () -> faultOf(van, zone));
        }
    }

    /** A shifted probe is odd, told, found, told by the others, logged, repaired; no other one is. */
    private static void faultOf(int van, int zone) {
        ColdChain chain = Edge.threeVans();
        int own = 10 * van;
        Checks.due("setProbe", chain.setProbe(van, zone, 1, 50), 0);
        zoneIs(chain, van, zone, own, own + 50, own + 50, 1, 0, 0);
        Checks.due("pass(2)", chain.pass(2), 0);
        zoneIs(chain, van, zone, own, own + 50, own + 50, 1, 0, 2);
        Checks.due("pass(1)", chain.pass(1), 1);
        zoneIs(chain, van, zone, own, own + 50, own, 1, 1, 3);
        Checks.due("setProbe", chain.setProbe(van, zone, 2, -40), 1);
        Checks.due("pass(1)", chain.pass(1), 0);
        zoneIs(chain, van, zone, own, -40, own, 2, 1, 4);
        Checks.due("count(8)", chain.count(8), 1);
        for (int other = 0; other < 9; other++) {
            boolean it = other / 3 == van && other % 3 == zone;
            int due = 10 * (other / 3);
            for (int time = 1; time <= 4; time++) {
                Checks.due("log of " + other, chain.log(other / 3, other % 3, time, 0), due);
                int told = it && time <= 2 ? due + 50 : due;
                Checks.due("told log of " + other, chain.log(other / 3, other % 3, time, 1), told);
            }
            Checks.due("warm told minutes", chain.warm(other / 3, other % 3, due, 0, 4, 1), it ? 2 : 0);
            Checks.due("warm minutes", chain.warm(other / 3, other % 3, due, 0, 4, 0), 0);
            if (!it) {
                zoneIs(chain, other / 3, other % 3, due, due, due, 0, 0, 0);
            }
        }
        Checks.due("repair", chain.repair(van, zone), 1);
        zoneIs(chain, van, zone, own, own, own, 0, 0, 0);
        Checks.due("repair", chain.repair(van, zone), 0);
    }

    private static void zoneIs(ColdChain chain, int van, int zone, int... due) {
        for (int what = 0; what < due.length; what++) {
            Checks.due("zone(" + van + ", " + zone + ", " + what + ")", chain.zone(van, zone, what), due[what]);
        }
    }

    private static void vans() {
        Edge edge = new Edge("Vans");
        for (int number = 0; number < 3; number++) {
            int van = number;
            edge.test("A van has a set point (-300 to 100), a cooling (0 to 30), a door", "van " + van, () -> settingsOf(van));
        }
        Edge ahead = new Edge("Promise 23");
        for (int number = 0; number < 3; number++) {
            int van = number;
            ahead.test("no pallet that is in the van", "of van " + van + ", where those of the two others are overdue", () -> {
                for (int due = 0; due <= 2; due++) {
                    ColdChain chain = new ColdChain();
                    chain.setNumber(0, 34);
                    for (int other = 0; other < 3; other++) {
                        chain.addVan(0, 30);
                        chain.door(other, 1);
                        chain.loadPallet(other, 0, other == van ? 300 : -1, 0, 0);
                    }
                    chain.pass(1);
                    chain.loadPallet(van, 1, 0, due, 0);
                    for (int k = 0; k < 6; k++) {
                        chain.setNumber(0, 34);
                    }
                    for (int left = 6; left >= 0; left--) {
                        Checks.due("longestOpen(" + van + ")", chain.longestOpen(van), due);
                        chain.undo();
                    }
                }
            });
        }
        for (int number = 0; number < 3; number++) {
            int van = number;
            ahead.test("NONE if there is none", "van " + van + " alone", () -> {
                ColdChain chain = PalletEdges.threeOpen();
                chain.loadPallet(van, 1, -300, 59, 0);
                for (int other = 0; other < 3; other++) {
                    Checks.due("longestOpen(" + other + ")", chain.longestOpen(other), other == van ? Look.NONE : 60);
                }
            });
        }
    }

    private static void settingsOf(int van) {
        ColdChain chain = Edge.threeVans();
        chain.setNumber(0, 100);
        Checks.due("setVan", chain.setVan(van, -50, 7), 10 * van);
        Checks.due("door", chain.door(van, 1), 0);
        Checks.due("loadPallet", chain.loadPallet(van, 2, 300, 0, 0), 0);
        Checks.due("loadPallet", chain.loadPallet(van, 0, 300, 0, 0), 1);
        Checks.due("door", chain.door(van, 0), 2);
        chain.pass(1);
        for (int other = 0; other < 3; other++) {
            int[] due = other == van ? new int[] {-50, 7, 0, 3} : new int[] {10 * other, 5, 0, 0};
            for (int what = 0; what < due.length; what++) {
                Checks.due("van(" + other + ", " + what + ")", chain.van(other, what), due[what]);
            }
            Checks.due("temperature of " + other, chain.zone(other, 1, 0), other == van ? 10 * van - 7 : 10 * other);
        }
        Checks.due("door", chain.door(van, 1), 2);
        Checks.due("van(" + van + ", 2)", chain.van(van, 2), 1);
        Checks.due("setVan", chain.setVan(van, -60, 7), -50);
    }

    private static void pallets() {
        Edge edge = new Edge("Pallets");
        for (int number = 0; number < 12; number++) {
            int pallet = number;
            edge.test("A pallet has a van, a zone, a limit (-300 to 300)", "pallet " + pallet, () -> {
                fateOf(pallet, new int[] {2, 1, 4}, 0, 1, 700);
                fateOf(pallet, new int[] {1, 2, 0}, 2, 2, 350);
                fateOf(pallet, new int[] {1, 1, 9}, 2, 3, 0);
                fateOf(pallet, new int[] {1, 1, 1}, 3, 0, 0);
            });
        }
    }

    /**
     * Twelve pallets in three open vans at 10, of which this one alone has minutes: open, closed and
     * told ones. See PalletEdges.warmed().
     */
    private static ColdChain warmed(int pallet, int[] minutes, int allowance) {
        ColdChain chain = new ColdChain();
        chain.setNumber(0, 11);
        for (int van = 0; van < 3; van++) {
            chain.addVan(11, 30);
            chain.door(van, 1);
        }
        for (int k = 0; k < 12; k++) {
            chain.loadPallet(k % 3, k / 3 % 3, k == pallet ? 10 : 300, k == pallet ? allowance : 0, k == pallet ? 1000 : 1);
        }
        chain.pass(minutes[0]);
        for (int van = 0; van < 3; van++) {
            chain.door(van, 0);
        }
        chain.pass(minutes[1]);
        for (int van = 0; van < 3; van++) {
            chain.setVan(van, 10, 30);
        }
        chain.pass(1);
        for (int van = 0; van < 3; van++) {
            chain.door(van, 1);
        }
        chain.setProbe(pallet % 3, pallet / 3 % 3, 1, 1);
        Edge.pass(chain, minutes[2]);
        return chain;
    }

    /** With the cause 0 it is accepted; otherwise it is brought back for 50, and so much falls to the door. */
    private static void fateOf(int pallet, int[] minutes, int allowance, int cause, int door) {
        ColdChain chain = warmed(pallet, minutes, allowance);
        int state = cause == 0 ? 1 : 2;
        int told = minutes[0] + minutes[1] + minutes[2];
        int set = 0x249 << pallet % 3;
        palletIs(chain, pallet, 10, allowance, 1000, 0, minutes[0], minutes[1], told, 0, 0);
        Checks.due("minutesLeft", chain.minutesLeft(pallet), cause == 0 ? 1 : 0);
        Checks.due("the set ahead", chain.van(pallet % 3, 3), set);
        Checks.due("deliver(" + pallet + ")", chain.deliver(pallet), state);
        Checks.due("the set afterwards", chain.van(pallet % 3, 3), set & ~(1 << pallet));
        palletIs(chain, pallet, 10, allowance, 1000, state, minutes[0], minutes[1], told, cause, 0);
        Checks.due("minutesLeft", chain.minutesLeft(pallet), Look.ILLEGAL);
        Checks.due("deliver again", chain.deliver(pallet), Look.ILLEGAL);
        Checks.due("detour", chain.detour(1 << pallet, 50), cause == 0 ? Look.ILLEGAL : 50);
        int claim = cause == 0 ? 0 : 1050;
        if (cause > 0) {
            palletIs(chain, pallet, 10, allowance, 1000, 3, minutes[0], minutes[1], told, cause, 50);
            Checks.due("detour again", chain.detour(1 << pallet, 50), Look.ILLEGAL);
        }
        int[] due = {claim, door, cause == 3 ? 0 : claim - door, cause == 3 ? claim : 0};
        for (int asked = 0; asked <= 3; asked++) {
            Checks.due("claims(" + asked + ")", chain.claims(asked), due[asked]);
        }
        for (int other = 0; other < 12; other++) {
            if (other != pallet) {
                palletIs(chain, other, 300, 0, 1, 0, 0, 0, 0, 0, 0);
                Checks.due("minutesLeft(" + other + ")", chain.minutesLeft(other), Look.NONE);
            }
        }
    }

    /** Its van and its zone go by its number; the others are due from the limit on. */
    private static void palletIs(ColdChain chain, int pallet, int... due) {
        Checks.due("van of " + pallet, chain.pallet(pallet, 0), pallet % 3);
        Checks.due("zone of " + pallet, chain.pallet(pallet, 1), pallet / 3 % 3);
        for (int k = 0; k < due.length; k++) {
            Checks.due("pallet(" + pallet + ", " + (k + 2) + ")", chain.pallet(pallet, k + 2), due[k]);
        }
    }

    /** Three vans, the second one open with a pallet in it. */
    private static ColdChain scripted(String text) {
        ColdChain chain = Edge.threeVans();
        chain.door(1, 1);
        chain.loadPallet(1, 0, 300, 0, 0);
        chain.setProbe(2, 1, 1, 1);
        Look.type(chain, text);
        return chain;
    }

    private static void commands() {
        Edge edge = new Edge("Promise 14");
        String number = "-300000 minus the number of the first command, from 0, that returns an error code when its turn comes";
        edge.test(number, "of each kind, at each of 26 places", () -> {
            for (String wrong : new String[] {"w0;", "o1;", "c0;", "d1;", "r2.3;"}) {
                for (int place = 0; place < 26; place++) {
                    ColdChain chain = scripted("w1;".repeat(place) + wrong);
                    Checks.due(wrong + " at " + place, chain.runScript(), -300000 - place);
                    Checks.due("count(2)", chain.count(2), 0);
                }
            }
        });
        edge.test("Does the commands of the text in their order", "of each kind, at each of 26 places", () -> {
            for (int place = 0; place < 26; place++) {
                String ahead = "w1;".repeat(place);
                Checks.due("o", ran(ahead + "o2;", place).van(2, 2), 1);
                Checks.due("c", ran(ahead + "c1;", place).van(1, 2), 0);
                Checks.due("d", ran(ahead + "d0;", place).pallet(0, 5), 1);
                Checks.due("r", ran(ahead + "r2.1;", place).zone(2, 1, 3), 0);
                Checks.due("w", ran(ahead + "w9;", place).count(2), place + 9);
            }
        });
    }

    private static void errors() {
        Edge edge = new Edge("Script");
        String first = "the error position is the offset (from 0) of the first character that is not allowed where it stands";
        // The number ahead is the offset within the last command.
        String[] wrong = {"0q;", "0;", "1o;", "1c-;", "1w01;", "1d1000;", "2w1.;", "2r1;", "3r1.;", "3r1.00;", "4r1.1.", "2d1"};
        edge.test(first, "in each of 25 commands", () -> {
            for (String text : wrong) {
                int offset = text.charAt(0) - '0';
                for (int place = 0; place < 25; place++) {
                    ColdChain chain = scripted("w1;".repeat(place) + text.substring(1));
                    Checks.due(text + " at " + place, chain.runScript(), -200000 - 3 * place - offset);
                    Checks.due("count(2)", chain.count(2), 0);
                }
            }
        });
    }

    private static void loads() {
        Edge edge = new Edge("Promise 7");
        for (int number = 0; number < 9; number++) {
            int van = number / 3;
            int zone = number % 3;
            edge.test("INVALID_ARGUMENT if there is no such van or an argument is out of range",
                "zone " + zone + " of van " + van + ", open, closed and full", () -> {
                    ColdChain chain = PalletEdges.threeOpen();
                    loadRefused(chain, van, zone);
                    for (int k = 0; k < 3; k++) {
                        Checks.due("loadPallet", chain.loadPallet(van, zone, -300, 600, 9999), k);
                    }
                    loadRefused(chain, van, zone);
                    Checks.due("full", chain.loadPallet(van, zone, 0, 0, 0), Look.FULL);
                    chain.door(van, 0);
                    loadRefused(chain, van, zone);
                    Checks.due("closed", chain.loadPallet(van, zone, 0, 0, 0), Look.ILLEGAL);
                    Checks.due("count(1)", chain.count(1), 3);
                });
        }
    }

    private static void loadRefused(ColdChain chain, int van, int zone) {
        int[][] wrong = {{-301, 0, 0}, {301, 0, 0}, {0, -1, 0}, {0, 601, 0}, {0, 0, -1}, {0, 0, 10000}};
        for (int[] row : wrong) {
            Checks.due("loadPallet", chain.loadPallet(van, zone, row[0], row[1], row[2]), Look.INVALID);
        }
    }

    private static ColdChain ran(String text, int place) {
        ColdChain chain = scripted(text);
        Checks.due(text, chain.runScript(), place + 1);
        return chain;
    }

    /** All that names a van, otherwise right. */
    private static void vanRefused(ColdChain chain, int van) {
        Checks.due("setVan", chain.setVan(van, 0, 0), Look.INVALID);
        Checks.due("door", chain.door(van, 1), Look.INVALID);
        Checks.due("door", chain.door(van, 0), Look.INVALID);
        Checks.due("longestOpen", chain.longestOpen(van), Look.INVALID);
        for (int what = 0; what < 4; what++) {
            Checks.due("van", chain.van(van, what), Look.INVALID);
        }
        for (int zone = 0; zone < 3; zone++) {
            zoneRefused(chain, van, zone);
        }
    }

    /** All that names a zone, otherwise right. */
    private static void zoneRefused(ColdChain chain, int van, int zone) {
        for (int mode = 0; mode < 3; mode++) {
            Checks.due("setProbe", chain.setProbe(van, zone, mode, 0), Look.INVALID);
        }
        Checks.due("repair", chain.repair(van, zone), Look.INVALID);
        Checks.due("loadPallet", chain.loadPallet(van, zone, 0, 0, 0), Look.INVALID);
        for (int what = 0; what < 6; what++) {
            Checks.due("zone", chain.zone(van, zone, what), Look.INVALID);
        }
        for (int told = 0; told < 2; told++) {
            Checks.due("log", chain.log(van, zone, 1, told), Look.INVALID);
            Checks.due("warm", chain.warm(van, zone, 0, 0, 1, told), Look.INVALID);
        }
    }

    private static void times() {
        Edge edge = new Edge("Terms");
        edge.test("it is 0 at first and at most 600", "at each time all calls but pass() and log() answer alike", () -> {
            String due = story(late(1, 0));
            for (int time : new int[] {2, 299, 300, 301, 599, 600}) {
                ColdChain chain = late(time, 0);
                Checks.due("count(2)", chain.count(2), time);
                Checks.isTrue("at " + time, due.equals(story(chain)));
            }
        });
        edge.test("it is 0 at first and at most 600", "at each time scripts without \"w\" and looks ahead answer alike", () -> {
            for (int time : new int[] {1, 2, 299, 300, 301, 599, 600}) {
                ColdChain chain = late(time, 0);
                Checks.due("an error", Look.script(chain, "o1;q"), -200003);
                Checks.due("count(6)", chain.count(6), 4);
                Checks.due("open already", Look.script(chain, "c0;o1;o1;"), -300002);
                Checks.due("clearText()", chain.clearText(), 9);
                Checks.due("four commands", Look.script(chain, "o1;d0;d2;r0.2;"), 4);
                Checks.due("count(6)", chain.count(6), 0);
                Checks.due("pallet(0, 5)", chain.pallet(0, 5), 2);
                Checks.due("van(1, 2)", chain.van(1, 2), 1);
                chain.setNumber(0, 34);
                chain.setVan(1, 0, 30);
                chain.loadPallet(1, 0, 0, 9, 0);
                Checks.due("minutesLeft(3)", chain.minutesLeft(3), 10);
                Checks.due("longestOpen(1)", chain.longestOpen(1), 9);
                Checks.due("longestOpen(0)", chain.longestOpen(0), Look.NONE);
            }
        });
        Edge text = new Edge("Script");
        text.test("Work can be told by a text of at most 80 characters", "with each length all other calls answer alike", () -> {
            String due = story(late(1, 0));
            for (int length : new int[] {1, 2, 79, 80}) {
                ColdChain chain = late(1, length);
                Checks.due("count(6)", chain.count(6), length);
                Checks.isTrue("with " + length, due.equals(story(chain)));
                Checks.due("clearText()", chain.clearText(), length);
            }
        });
    }

    /** Two vans that stay at 0, open and closed, with three pallets of which two are overdue. */
    private static ColdChain late(int time, int length) {
        ColdChain chain = new ColdChain();
        chain.setNumber(0, 0);
        chain.addVan(0, 5);
        chain.addVan(0, 5);
        Edge.pass(chain, time - 1);
        chain.door(0, 1);
        chain.loadPallet(0, 0, -300, 0, 11);
        chain.loadPallet(0, 1, -300, 0, 22);
        chain.loadPallet(0, 2, 300, 0, 33);
        chain.setProbe(0, 2, 1, 40);
        chain.setNumber(2, 1);
        chain.pass(1);
        Look.type(chain, "q".repeat(length));
        return chain;
    }

    /** What some 150 calls answer, of all kinds but pass() and log(). */
    private static String story(ColdChain chain) {
        Edge.Call[] calls = {c -> c.minutesLeft(0), c -> c.minutesLeft(1), c -> c.minutesLeft(2), c -> c.longestOpen(0),
            c -> c.longestOpen(1), c -> c.repair(0, 2), c -> c.setProbe(0, 2, 2, 7), c -> c.setNumber(1, 50), c -> c.undo(),
            c -> c.setVan(0, -9, 9), c -> c.setNumber(2, 5), c -> c.setNumber(0, -7), c -> c.deliver(0), c -> c.deliver(1),
            c -> c.door(0, 0), c -> c.deliver(2), c -> c.loadPallet(0, 0, 0, 0, 0), c -> c.door(0, 1), c -> c.door(0, 1),
            c -> c.loadPallet(0, 0, 1, 2, 3), c -> c.detour(3, 17), c -> c.detour(3, 17), c -> c.detour(4, 0), c -> c.undo(),
            c -> c.detour(2, 17), c -> c.addVan(8, 8), c -> c.addVan(8, 8), c -> c.addVan(101, 8), c -> c.deliver(9),
            c -> c.zone(3, 0, 0), c -> c.zone(0, 0, 6), c -> c.van(0, 4), c -> c.van(3, 0), c -> c.pallet(9, 0),
            c -> c.pallet(0, 11), c -> c.claims(4), c -> c.count(9), c -> c.warm(0, 0, 301, 0, 1, 0), c -> c.log(0, 0, 0, 0),
            c -> c.longestOpen(2), c -> c.minutesLeft(3), c -> c.count(7)};
        StringBuilder told = new StringBuilder();
        for (Edge.Call call : calls) {
            told.append(call.on(chain)).append(' ');
        }
        for (int what = 0; what < 66; what++) {
            told.append(chain.zone(what / 6 % 3, what / 18 % 3, what % 6)).append(' ');
            told.append(chain.pallet(what / 11 % 4, what % 11)).append(' ');
        }
        for (int what = 0; what < 12; what++) {
            told.append(chain.van(what / 4, what % 4)).append(' ').append(chain.claims(what % 4)).append(' ');
            told.append(what == 2 || what == 6 ? 0 : chain.count(what)).append(' ');
        }
        for (int left = 5; left >= -1; left--) {
            told.append(chain.undo()).append(' ').append(chain.count(7)).append(' ');
        }
        return told.toString();
    }

    private static void noSuchVan() {
        Edge edge = new Edge("Errors");
        for (int number = 0; number <= 3; number++) {
            int vans = number;
            edge.test(INVALID, "the van " + vans + " and others, where there are " + vans, () -> {
                for (int van : new int[] {vans, 3, -1, Look.LOW, Look.HIGH}) {
                    ColdChain chain = openVans(vans);
                    String due = Edge.numbers(chain);
                    vanRefused(chain, van);
                    Checks.isTrue("van " + van + " changes nothing", due.equals(Edge.numbers(chain)));
                }
            });
        }
    }

    private static ColdChain openVans(int vans) {
        ColdChain chain = new ColdChain();
        for (int van = 0; van < vans; van++) {
            chain.addVan(0, 0);
            chain.door(van, 1);
        }
        chain.pass(1);
        return chain;
    }

    private static void noSuchZone() {
        Edge edge = new Edge("Errors");
        for (int number = 0; number < 3; number++) {
            int van = number;
            edge.test(INVALID, "zones that van " + van + " has not", () -> {
                for (int zone : new int[] {-1, 3, 6, -3, Look.LOW, Look.HIGH}) {
                    ColdChain chain = openVans(3);
                    String due = Edge.numbers(chain);
                    zoneRefused(chain, van, zone);
                    Checks.isTrue("zone " + zone + " changes nothing", due.equals(Edge.numbers(chain)));
                }
            });
        }
    }

    private static void noSuchPallet() {
        Edge edge = new Edge("Errors");
        edge.test(INVALID, "the pallet behind the last one, where there are 0 to 12", () -> {
            for (int pallets = 0; pallets <= 12; pallets++) {
                ColdChain chain = openVans(3);
                for (int k = 0; k < pallets; k++) {
                    chain.loadPallet(k % 3, k / 3 % 3, -300, 0, 0);
                }
                for (int pallet : new int[] {pallets, 12, -1, Look.LOW, Look.HIGH}) {
                    Checks.due("deliver", chain.deliver(pallet), Look.INVALID);
                    Checks.due("minutesLeft", chain.minutesLeft(pallet), Look.INVALID);
                    for (int what = 0; what <= 10; what++) {
                        Checks.due("pallet", chain.pallet(pallet, what), Look.INVALID);
                    }
                }
                chain.pass(1);
                for (int k = 0; k < pallets; k++) {
                    chain.deliver(k);
                }
                Checks.due("detour of the next one", chain.detour(1 << pallets, 0), Look.INVALID);
                Checks.due("detour of all and the next one", chain.detour((2 << pallets) - 1, 0), Look.INVALID);
                Checks.due("detour of all", chain.detour((1 << pallets) - 1, 0), pallets == 0 ? Look.INVALID : 0);
            }
        });
    }

    private static void noSuchProperty() {
        Edge edge = new Edge("Errors");
        edge.test(INVALID, "properties, times and limits that there are not, of each van, zone and pallet", () -> {
            for (int number = 0; number < 9; number++) {
                int van = number / 3;
                int zone = number % 3;
                ColdChain chain = PalletEdges.twelve();
                chain.addVan(0, 0);
                chain.pass(1);
                for (int what : new int[] {-1, 6, Look.LOW, Look.HIGH}) {
                    Checks.due("zone", chain.zone(van, zone, what), Look.INVALID);
                    Checks.due("van", chain.van(van, what == 6 ? 4 : what), Look.INVALID);
                    Checks.due("setProbe", chain.setProbe(van, zone, what == 6 ? 3 : what, 0), Look.INVALID);
                    for (int pallet = 0; pallet < 12; pallet++) {
                        Checks.due("pallet", chain.pallet(pallet, what == 6 ? 11 : what), Look.INVALID);
                    }
                }
                for (int told = 0; told < 2; told++) {
                    Checks.due("log", chain.log(van, zone, 0, told), Look.INVALID);
                    Checks.due("warm", chain.warm(van, zone, -301, 0, 1, told), Look.INVALID);
                    Checks.due("warm", chain.warm(van, zone, 301, 0, 1, told), Look.INVALID);
                    Checks.due("warm", chain.warm(van, zone, 0, -1, 1, told), Look.INVALID);
                    Checks.due("warm", chain.warm(van, zone, 0, 1, 0, told), Look.INVALID);
                    Checks.due("log", chain.log(van, zone, 1, 3 * told - 1), Look.INVALID);
                    Checks.due("warm", chain.warm(van, zone, 0, 0, 1, 3 * told - 1), Look.INVALID);
                    Checks.due("a later log", chain.log(van, zone, 2, told), Look.NONE);
                }
            }
        });
        edge.test(INVALID, "causes that there are not, with claims", () -> {
            ColdChain chain = warmed(3, new int[] {2, 2, 0}, 0);
            chain.deliver(3);
            Checks.due("claims(0)", chain.claims(0), 1000);
            for (int cause : new int[] {-1, 4, Look.LOW, Look.HIGH}) {
                Checks.due("claims(" + cause + ")", chain.claims(cause), Look.INVALID);
            }
        });
    }
}
