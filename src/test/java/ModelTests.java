import java.util.Random;

/**
 * Runs of 512 drawn calls: the class must answer each as the plain second writing does. What a draw
 * has to know is asked of the second writing, so that it takes none of the 512.
 */
final class ModelTests {
    private static final int RUNS = 600;
    private static final int CALLS = 512;
    private static final int EDGES = 14;

    private final Random random;
    private final ColdChain chain = new ColdChain();
    private final Model model = new Model();
    private final boolean wild;
    private String call = "";
    private int calls;
    private int got;
    private int due;

    private ModelTests(long seed) {
        random = new Random(seed);
        wild = seed % 8 == 0;
    }

    static void run() {
        for (int part = 0; part < 4; part++) {
            int first = part * RUNS / 4;
            Checks.test("1 to 24: drawn runs from " + first, () -> runs(first));
        }
    }

    private static void runs(int first) {
        for (int seed = first; seed < first + RUNS / 4; seed++) {
            new ModelTests(seed).compare(seed);
        }
    }

    private void compare(int seed) {
        for (int k = 0; calls < CALLS; k++) {
            calls++;
            if (k < 6 && !wild) {
                first(k);
            } else {
                drawn();
            }
            if (got != due) {
                Checks.due("seed " + seed + ", call " + calls + ": " + call, got, due);
                return;
            }
        }
    }

    /** Two vans with open doors, so that the drawn calls find something to do. */
    private void first(int k) {
        int van = k / 2;
        if (k % 2 == 0) {
            int setPoint = between(-200, 60);
            say("addVan", setPoint);
            is(chain.addVan(setPoint, 6), model.addVan(setPoint, 6));
        } else {
            is(chain.door(van, 1), model.door(van, 1));
        }
    }

    private int between(int low, int high) {
        return low + random.nextInt(high - low + 1);
    }

    /** Mostly a number in the range, now and then one at its edges or beyond. */
    private int number(int low, int high) {
        if (wild && random.nextInt(3) == 0) {
            int[] far = {Integer.MIN_VALUE, Integer.MAX_VALUE, -1, 0, 1, low - 1, high + 1, 1 << 30, -100001};
            return far[random.nextInt(far.length)];
        }
        switch (random.nextInt(EDGES)) {
            case 0: return low;
            case 1: return high;
            case 2: return random.nextInt(4) == 0 ? low - 1 : low;
            case 3: return random.nextInt(4) == 0 ? high + 1 : high;
            default: return between(low, high);
        }
    }

    private int aVan() {
        return number(0, Math.max(0, model.count(0) - 1));
    }

    private int aZone() {
        return number(0, 2);
    }

    private int aPallet() {
        return number(0, Math.max(0, model.count(1) - 1));
    }

    private void is(int answered, int asked) {
        got = answered;
        due = asked;
    }

    private void say(String name, int... arguments) {
        StringBuilder said = new StringBuilder(name).append('(');
        for (int k = 0; k < arguments.length; k++) {
            said.append(k == 0 ? "" : ", ").append(arguments[k]);
        }
        call = said.append(')').toString();
    }

    private void drawn() {
        int kind = random.nextInt(100);
        if (kind < 24) {
            drawnSetting(random.nextInt(10));
        } else if (kind < 56) {
            drawnMove(random.nextInt(12));
        } else if (kind < 62) {
            drawnScript();
        } else {
            drawnLook(random.nextInt(12));
        }
    }

    private void drawnSetting(int kind) {
        int van = aVan();
        int zone = aZone();
        if (kind == 0) {
            int setPoint = number(-300, 100);
            int cooling = number(0, 30);
            say("addVan", setPoint, cooling);
            is(chain.addVan(setPoint, cooling), model.addVan(setPoint, cooling));
        } else if (kind < 3) {
            int what = number(0, 2);
            int value = what == 0 ? number(-200, 450) : what == 1 ? number(5, 100) : number(1, 30);
            value = what == 2 && value > 5 ? value % 5 + 1 : value;
            say("setNumber", what, value);
            is(chain.setNumber(what, value), model.setNumber(what, value));
        } else if (kind < 5) {
            int setPoint = number(-300, 100);
            int cooling = number(0, 30);
            say("setVan", van, setPoint, cooling);
            is(chain.setVan(van, setPoint, cooling), model.setVan(van, setPoint, cooling));
        } else if (kind < 8) {
            int mode = number(0, 2);
            int value = mode == 1 ? number(-200, 200) : mode == 2 ? number(-300, 450) : number(0, 0);
            say("setProbe", van, zone, mode, value);
            is(chain.setProbe(van, zone, mode, value), model.setProbe(van, zone, mode, value));
        } else {
            say("repair", van, zone);
            is(chain.repair(van, zone), model.repair(van, zone));
        }
    }

    private void drawnMove(int kind) {
        int van = aVan();
        if (kind < 4) {
            int zone = aZone();
            int limit = random.nextInt(3) == 0 ? number(-300, 300) : number(-100, 150);
            int allowance = random.nextInt(3) == 0 ? number(0, 600) : number(0, 12);
            int value = random.nextInt(4) == 0 ? 0 : number(0, 9999);
            say("loadPallet", van, zone, limit, allowance, value);
            is(chain.loadPallet(van, zone, limit, allowance, value),
                model.loadPallet(van, zone, limit, allowance, value));
        } else if (kind < 6) {
            int open = number(0, 1);
            say("door", van, open);
            is(chain.door(van, open), model.door(van, open));
        } else if (kind < 8) {
            int minutes = random.nextInt(12) == 0 ? number(1, 300) : number(1, 9);
            say("pass", minutes);
            is(chain.pass(minutes), model.pass(minutes));
        } else if (kind < 10) {
            int pallet = aPallet();
            say("deliver", pallet);
            is(chain.deliver(pallet), model.deliver(pallet));
        } else if (kind == 10) {
            int set = aDetour();
            int cost = random.nextBoolean() ? number(0, 9999) : number(0, 30);
            say("detour", set, cost);
            is(chain.detour(set, cost), model.detour(set, cost));
        } else {
            say("undo");
            is(chain.undo(), model.undo());
        }
    }

    /** Mostly a set of rejected pallets, otherwise any. */
    private int aDetour() {
        if (random.nextInt(4) == 0) {
            return number(0, (1 << Math.max(0, model.count(1))) - 1);
        }
        int set = 0;
        for (int k = 0; k < model.count(1); k++) {
            if (model.pallet(k, 5) == 2 && random.nextInt(5) > 0) {
                set |= 1 << k;
            }
        }
        return set;
    }

    private void drawnScript() {
        int kind = random.nextInt(10);
        if (kind == 0) {
            say("clearText");
            is(chain.clearText(), model.clearText());
        } else if (kind == 1) {
            int character = number(0, 255);
            say("appendCharacter", character);
            is(chain.appendCharacter(character), model.appendCharacter(character));
        } else {
            String text = aText();
            if (random.nextInt(4) > 0 && calls < CALLS) {
                calls++;
                chain.clearText();
                model.clearText();
            }
            type(text);
            call = "runScript of '" + text + "'";
            is(chain.runScript(), model.runScript());
        }
    }

    /** As much of it as leaves a call to run it. */
    private void type(String text) {
        for (int k = 0; k < text.length() && calls < CALLS; k++) {
            calls++;
            chain.appendCharacter(text.charAt(k));
            model.appendCharacter(text.charAt(k));
        }
    }

    private String aText() {
        StringBuilder text = new StringBuilder();
        int commands = random.nextInt(7);
        for (int k = 0; k < commands; k++) {
            int van = random.nextInt(3);
            switch (random.nextInt(6)) {
                case 0: text.append('o').append(van); break;
                case 1: text.append('c').append(van); break;
                case 2: text.append("d ").append(random.nextInt(12)); break;
                case 3: text.append('r').append(van).append('.').append(random.nextInt(3)); break;
                default: text.append('w').append(1 + random.nextInt(11)); break;
            }
            text.append(random.nextInt(5) == 0 ? " ; " : ";");
        }
        String signs = "ocwdr0123456789.; x";
        for (int k = 0; k < 2 && text.length() > 0; k++) {
            int place = random.nextInt(text.length());
            int kind = random.nextInt(12);
            if (kind == 0) {
                text.deleteCharAt(place);
            } else if (kind == 1) {
                text.insert(place, signs.charAt(random.nextInt(signs.length())));
            }
        }
        return text.toString();
    }

    private void drawnLook(int kind) {
        int van = aVan();
        int zone = aZone();
        int told = number(0, 1);
        int time = model.count(2);
        if (kind == 0) {
            int what = number(0, 8);
            say("count", what);
            is(chain.count(what), model.count(what));
        } else if (kind == 1) {
            int what = number(0, 3);
            say("van", van, what);
            is(chain.van(van, what), model.van(van, what));
        } else if (kind < 4) {
            int what = number(0, 5);
            say("zone", van, zone, what);
            is(chain.zone(van, zone, what), model.zone(van, zone, what));
        } else if (kind < 6) {
            int pallet = aPallet();
            int what = number(0, 10);
            say("pallet", pallet, what);
            is(chain.pallet(pallet, what), model.pallet(pallet, what));
        } else if (kind == 6) {
            int cause = number(0, 3);
            say("claims", cause);
            is(chain.claims(cause), model.claims(cause));
        } else if (kind < 9) {
            int at = number(1, time + 1);
            say("log", van, zone, at, told);
            is(chain.log(van, zone, at, told), model.log(van, zone, at, told));
        } else if (kind == 9) {
            int limit = number(-300, 300);
            int from = number(0, time);
            int to = number(Math.max(0, Math.min(from, time)), time + 5);
            say("warm", van, zone, limit, from, to, told);
            is(chain.warm(van, zone, limit, from, to, told), model.warm(van, zone, limit, from, to, told));
        } else if (kind == 10) {
            int pallet = aPallet();
            say("minutesLeft", pallet);
            is(chain.minutesLeft(pallet), model.minutesLeft(pallet));
        } else {
            say("longestOpen", van);
            is(chain.longestOpen(van), model.longestOpen(van));
        }
    }
}
