import java.util.ArrayList;
import java.util.List;

/**
 * Tests of single sentences: each test quotes the words of the document that it is for, with the
 * place where they stand. SentenceTests sees to it that no sentence is left without one.
 *
 * <p>Nothing is promised about an object after its 512th call. So what a chain shows is looked at in
 * parts, each on a new pair of twins, which are chains that the same calls have made.
 */
final class Edge {
    interface Maker {
        ColdChain make();
    }

    interface Call {
        int on(ColdChain chain);
    }

    interface NumberCall {
        int on(ColdChain chain, int number);
    }

    /** The place and the words of each test. */
    static final List<String[]> QUOTES = new ArrayList<>();

    /** The numbers, the log with what would be, the text, and the numbers after 1 to 7 undos. */
    private static final int PARTS = 10;

    private final String place;

    Edge(String place) {
        this.place = place;
    }

    void test(String words, String matter, Checks.Body body) {
        QUOTES.add(new String[] {place, words});
        Checks.test(place + ": \"" + words + "\": " + matter, body);
    }

    /** Each call, on a chain of its own, answers the code and changes nothing. */
    void refused(String words, String matter, int code, Maker maker, Call... calls) {
        test(words, matter, () -> {
            for (int k = 0; k < calls.length; k++) {
                refuse("call " + k, code, maker, calls[k]);
            }
        });
    }

    /** The lowest and the highest number are taken and then seen; the ones beyond are refused. */
    void range(String words, int low, int high, Maker maker, NumberCall call, Call seen) {
        test(words, low + " and " + high + " are taken", () -> {
            for (int number : new int[] {low, high}) {
                ColdChain chain = maker.make();
                take("with " + number, call.on(chain, number));
                Checks.due("what is seen of " + number, seen.on(chain), number);
            }
        });
        beyond(words, low, high, maker, call);
    }

    /** As range(), for numbers that name something: each of them is taken. */
    void names(String words, int low, int high, Maker maker, NumberCall call) {
        test(words, low + " to " + high + " are taken", () -> {
            for (int number = low; number <= high; number++) {
                take("with " + number, call.on(maker.make(), number));
            }
        });
        beyond(words, low, high, maker, call);
    }

    private void beyond(String words, int low, int high, Maker maker, NumberCall call) {
        test(words, (low - 1) + " and " + (high + 1) + " and the farthest are refused", () -> {
            for (int number : new int[] {low - 1, high + 1, Look.LOW, Look.HIGH}) {
                refuse("with " + number, Look.INVALID, maker, chain -> call.on(chain, number));
            }
        });
    }

    private static void take(String name, int answer) {
        Checks.isTrue(name + ": " + answer + " is no error code", answer > Look.INVALID);
    }

    static void refuse(String name, int code, Maker maker, Call call) {
        for (int part = 0; part < PARTS; part++) {
            ColdChain called = maker.make();
            Checks.due(name, call.on(called), code);
            String due = shown(maker.make(), part);
            Checks.isTrue(name + " changes nothing, part " + part, due.equals(shown(called, part)));
        }
    }

    private static String shown(ColdChain chain, int part) {
        if (part == 1) {
            return ahead(chain) + logged(chain);
        }
        StringBuilder told = new StringBuilder();
        if (part == 2) {
            told.append(chain.runScript()).append(' ').append(chain.clearText()).append(' ');
        }
        for (int undos = 2; undos < part; undos++) {
            told.append(chain.undo()).append(' ');
        }
        return told.append(numbers(chain)).toString();
    }

    /** Some 210 calls. */
    static String numbers(ColdChain chain) {
        return chain.count(6) + " " + chain.count(7) + " " + state(chain);
    }

    /** What is saved for undo(), but for the log. */
    static String state(ColdChain chain) {
        StringBuilder told = new StringBuilder();
        for (int what : new int[] {0, 1, 2, 3, 4, 5, 8}) {
            told.append(chain.count(what)).append(' ');
        }
        for (int van = 0; van < 3; van++) {
            for (int what = 0; what <= 3; what++) {
                told.append(chain.van(van, what)).append(' ');
            }
            for (int what = 0; what <= 5; what++) {
                told.append(Look.zones(chain, van, what)).append(' ');
            }
        }
        for (int pallet = 0; pallet < 12; pallet++) {
            for (int what = 0; what <= 10; what++) {
                told.append(chain.pallet(pallet, what)).append(' ');
            }
        }
        for (int cause = 0; cause <= 3; cause++) {
            told.append(chain.claims(cause)).append(' ');
        }
        return told.toString();
    }

    static String ahead(ColdChain chain) {
        StringBuilder told = new StringBuilder();
        for (int pallet = 0; pallet < 12; pallet++) {
            told.append(chain.minutesLeft(pallet)).append(' ');
        }
        for (int van = 0; van < 3; van++) {
            told.append(chain.longestOpen(van)).append(' ');
        }
        return told.toString();
    }

    static String logged(ColdChain chain) {
        StringBuilder told = new StringBuilder();
        int now = chain.count(2);
        for (int row = 0; row < 18; row++) {
            for (int time : new int[] {1, now / 2, now - 1, now, now + 1, 600}) {
                told.append(chain.log(row / 6, row % 3, time, row / 3 % 2)).append(' ');
            }
            told.append(chain.warm(row / 6, row % 3, 0, 0, 600, row / 3 % 2)).append(' ');
        }
        return told.toString();
    }

    static ColdChain closedVan() {
        return Look.withVan(0, 5);
    }

    static ColdChain openVan() {
        return Look.withOpenVan(0, 5);
    }

    static ColdChain threeVans() {
        ColdChain chain = closedVan();
        chain.addVan(10, 5);
        chain.addVan(20, 5);
        return chain;
    }

    /** At this time, with an open van, without pallets. */
    static ColdChain at(int time) {
        ColdChain chain = openVan();
        pass(chain, time);
        return chain;
    }

    /** In as many calls as it takes; none for 0. */
    static void pass(ColdChain chain, int minutes) {
        for (int left = minutes; left > 0; left -= 300) {
            chain.pass(Math.min(left, 300));
        }
    }

    /**
     * Something of everything, so that a call that should change nothing has what it could spoil: an
     * open van with a found probe and a closed one, a pallet in each state (0 rejected, 1 accepted,
     * 2 brought back, 3 in the van), a log, a text with an error, six saved states.
     */
    static ColdChain busy() {
        ColdChain chain = openVan();
        chain.addVan(30, 0);
        chain.loadPallet(0, 0, -300, 0, 100);
        chain.loadPallet(0, 1, 300, 0, 200);
        chain.loadPallet(0, 2, -300, 0, 300);
        chain.loadPallet(0, 2, 20, 9, 400);
        chain.setNumber(1, 100);
        chain.setProbe(0, 1, 1, 200);
        chain.pass(4);
        for (int pallet = 0; pallet < 3; pallet++) {
            chain.deliver(pallet);
        }
        chain.detour(4, 50);
        Look.type(chain, "w1;q");
        return chain;
    }
}
