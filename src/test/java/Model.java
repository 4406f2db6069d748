import java.util.ArrayDeque;
import java.util.ArrayList;
import java.util.Deque;
import java.util.List;

/**
 * The document written a second time, as plainly as can be: the whole state, the log too, is copied
 * for every undo and for every look ahead.
 */
final class Model {
    private static final class Probe {
        int mode;
        int value;
        boolean found;
        int odd;
    }

    private static final class Van {
        int setPoint;
        int cooling;
        boolean open;
        int since;
        int[] warmth = new int[3];
        Probe[] probes = {new Probe(), new Probe(), new Probe()};
        List<int[]> entries = new ArrayList<>();

        int reading(int z) {
            Probe p = probes[z];
            return p.mode == 0 ? warmth[z] : p.mode == 1 ? warmth[z] + p.value : p.value;
        }

        int told(int z) {
            if (!probes[z].found) {
                return reading(z);
            }
            double sum = reading(0) + reading(1) + reading(2) - reading(z);
            return (int) Math.floor(sum / 2);
        }
    }

    private static final class Load {
        int van;
        int zone;
        int limit;
        int allowance;
        int value;
        int state;
        int open;
        int closed;
        int told;
        int part;
    }

    private static final class State {
        int time;
        int[] numbers = {200, 30, 3};
        List<Van> vans = new ArrayList<>();
        List<Load> loads = new ArrayList<>();

        State copy() {
            State s = new State();
            s.time = time;
            s.numbers = numbers.clone();
            for (Van v : vans) {
                Van c = new Van();
                c.setPoint = v.setPoint;
                c.cooling = v.cooling;
                c.open = v.open;
                c.since = v.since;
                c.warmth = v.warmth.clone();
                c.entries = new ArrayList<>(v.entries);
                for (int z = 0; z < 3; z++) {
                    c.probes[z].mode = v.probes[z].mode;
                    c.probes[z].value = v.probes[z].value;
                    c.probes[z].found = v.probes[z].found;
                    c.probes[z].odd = v.probes[z].odd;
                }
                s.vans.add(c);
            }
            for (Load l : loads) {
                Load c = new Load();
                c.van = l.van;
                c.zone = l.zone;
                c.limit = l.limit;
                c.allowance = l.allowance;
                c.value = l.value;
                c.state = l.state;
                c.open = l.open;
                c.closed = l.closed;
                c.told = l.told;
                c.part = l.part;
                s.loads.add(c);
            }
            return s;
        }
    }

    private static final int INVALID = -100001;
    private static final int ILLEGAL = -100002;
    private static final int FULL = -100003;
    private static final int NONE = -100009;

    private State s = new State();
    private final Deque<State> saved = new ArrayDeque<>();
    private final StringBuilder text = new StringBuilder();
    private boolean inScript = false;

    private void save() {
        if (inScript) {
            return;
        }
        saved.addLast(s.copy());
        if (saved.size() > 6) {
            saved.removeFirst();
        }
    }

    private static boolean out(int n, int low, int high) {
        return n < low || n > high;
    }

    private boolean noVan(int van) {
        return out(van, 0, s.vans.size() - 1);
    }

    private boolean noLoad(int pallet) {
        return out(pallet, 0, s.loads.size() - 1);
    }

    int addVan(int setPoint, int cooling) {
        if (out(setPoint, -300, 100) || out(cooling, 0, 30)) {
            return INVALID;
        }
        if (s.vans.size() == 3) {
            return FULL;
        }
        save();
        Van v = new Van();
        v.setPoint = setPoint;
        v.cooling = cooling;
        v.since = s.time;
        v.warmth = new int[] {setPoint, setPoint, setPoint};
        s.vans.add(v);
        return s.vans.size() - 1;
    }

    int setNumber(int what, int value) {
        int[] low = {-200, 5, 1};
        int[] high = {450, 100, 30};
        if (out(what, 0, 2) || out(value, low[what], high[what])) {
            return INVALID;
        }
        save();
        int old = s.numbers[what];
        s.numbers[what] = value;
        return old;
    }

    int setVan(int van, int setPoint, int cooling) {
        if (noVan(van) || out(setPoint, -300, 100) || out(cooling, 0, 30)) {
            return INVALID;
        }
        save();
        int old = s.vans.get(van).setPoint;
        s.vans.get(van).setPoint = setPoint;
        s.vans.get(van).cooling = cooling;
        return old;
    }

    int setProbe(int van, int zone, int mode, int value) {
        int[] low = {0, -200, -300};
        int[] high = {0, 200, 450};
        if (noVan(van) || out(zone, 0, 2) || out(mode, 0, 2) || out(value, low[mode], high[mode])) {
            return INVALID;
        }
        save();
        Probe p = s.vans.get(van).probes[zone];
        int old = p.mode;
        p.mode = mode;
        p.value = value;
        return old;
    }

    int repair(int van, int zone) {
        if (noVan(van) || out(zone, 0, 2)) {
            return INVALID;
        }
        save();
        boolean found = s.vans.get(van).probes[zone].found;
        s.vans.get(van).probes[zone] = new Probe();
        return found ? 1 : 0;
    }

    int loadPallet(int van, int zone, int limit, int allowance, int value) {
        if (noVan(van) || out(zone, 0, 2) || out(limit, -300, 300) || out(allowance, 0, 600) || out(value, 0, 9999)) {
            return INVALID;
        }
        if (!s.vans.get(van).open) {
            return ILLEGAL;
        }
        long there = s.loads.stream().filter(l -> l.state == 0 && l.van == van && l.zone == zone).count();
        if (s.loads.size() == 12 || there == 3) {
            return FULL;
        }
        save();
        Load l = new Load();
        l.van = van;
        l.zone = zone;
        l.limit = limit;
        l.allowance = allowance;
        l.value = value;
        s.loads.add(l);
        return s.loads.size() - 1;
    }

    int door(int van, int open) {
        if (noVan(van) || out(open, 0, 1)) {
            return INVALID;
        }
        if (s.vans.get(van).open == (open == 1)) {
            return ILLEGAL;
        }
        save();
        s.vans.get(van).open = open == 1;
        return (int) s.loads.stream().filter(l -> l.state == 0 && l.van == van).count();
    }

    int pass(int minutes) {
        if (out(minutes, 1, 300)) {
            return INVALID;
        }
        if (s.time + minutes > 600) {
            return FULL;
        }
        save();
        int found = 0;
        for (int k = 0; k < minutes; k++) {
            found += minute(s);
        }
        return found;
    }

    private static int minute(State s) {
        int found = 0;
        s.time++;
        for (int n = 0; n < s.vans.size(); n++) {
            Van v = s.vans.get(n);
            warmOrCool(s, v);
            for (int z = 0; z < 2; z++) {
                int d = (v.warmth[z] - v.warmth[z + 1]) / 10;
                v.warmth[z] -= d;
                v.warmth[z + 1] += d;
            }
            found += find(s, v);
            for (Load l : s.loads) {
                if (l.state != 0 || l.van != n) {
                    continue;
                }
                if (v.warmth[l.zone] > l.limit && v.open) {
                    l.open++;
                }
                if (v.warmth[l.zone] > l.limit && !v.open) {
                    l.closed++;
                }
                if (v.told(l.zone) > l.limit) {
                    l.told++;
                }
            }
            v.entries.add(new int[] {v.warmth[0], v.warmth[1], v.warmth[2], v.told(0), v.told(1), v.told(2)});
        }
        return found;
    }

    private static void warmOrCool(State s, Van v) {
        int[] k = {3, 6, 12};
        for (int z = 0; z < 3; z++) {
            if (v.open) {
                v.warmth[z] = v.warmth[z] + (s.numbers[0] - v.warmth[z]) * k[z] / 100;
            } else if (v.warmth[z] > v.setPoint) {
                int cooled = v.warmth[z] - v.cooling;
                v.warmth[z] = cooled < v.setPoint ? v.setPoint : cooled;
            } else if (v.warmth[z] < v.setPoint) {
                v.warmth[z] += 1;
            }
        }
    }

    private static int find(State s, Van v) {
        int[][] others = {{1, 2}, {0, 2}, {0, 1}};
        int found = 0;
        int d = s.numbers[1];
        for (int z = 0; z < 3; z++) {
            int a = v.reading(others[z][0]);
            int b = v.reading(others[z][1]);
            int r = v.reading(z);
            boolean far = (r > a + d || r < a - d) && (r > b + d || r < b - d);
            boolean near = a - b <= d && b - a <= d;
            if (far && near) {
                v.probes[z].odd++;
                if (v.probes[z].odd >= s.numbers[2] && !v.probes[z].found) {
                    v.probes[z].found = true;
                    found++;
                }
            } else {
                v.probes[z].odd = 0;
            }
        }
        return found;
    }

    int deliver(int pallet) {
        if (noLoad(pallet)) {
            return INVALID;
        }
        Load l = s.loads.get(pallet);
        if (l.state != 0 || !s.vans.get(l.van).open) {
            return ILLEGAL;
        }
        save();
        s.loads.get(pallet).state = l.told > l.allowance ? 2 : 1;
        return s.loads.get(pallet).state;
    }

    int detour(int pallets, int cost) {
        List<Load> chosen = new ArrayList<>();
        for (int k = 0; k < 32; k++) {
            if ((pallets & (1 << k)) != 0) {
                if (k >= s.loads.size()) {
                    return INVALID;
                }
                chosen.add(s.loads.get(k));
            }
        }
        if (chosen.isEmpty() || out(cost, 0, 9999)) {
            return INVALID;
        }
        if (chosen.stream().anyMatch(l -> l.state != 2)) {
            return ILLEGAL;
        }
        save();
        boolean worthless = chosen.stream().allMatch(l -> l.value == 0);
        long sum = chosen.stream().mapToLong(l -> worthless ? 1 : l.value).sum();
        int left = cost;
        for (Load l : chosen) {
            l.state = 3;
            l.part = (int) ((long) cost * (worthless ? 1 : l.value) / sum);
            left -= l.part;
        }
        for (int k = 0; left > 0; k = (k + 1) % chosen.size()) {
            chosen.get(k).part++;
            left--;
        }
        return chosen.stream().mapToInt(l -> l.part).max().getAsInt();
    }

    int appendCharacter(int character) {
        if (out(character, 0, 255)) {
            return INVALID;
        }
        if (text.length() == 80) {
            return FULL;
        }
        text.append((char) character);
        return text.length();
    }

    int clearText() {
        int length = text.length();
        text.setLength(0);
        return length;
    }

    int runScript() {
        List<int[]> commands = new ArrayList<>();
        int error = parse(commands);
        if (error >= 0) {
            return -200000 - error;
        }
        State before = s.copy();
        inScript = true;
        int bad = -1;
        for (int k = 0; k < commands.size() && bad < 0; k++) {
            int[] c = commands.get(k);
            int answer = c[0] == 'o' ? door(c[1], 1) : c[0] == 'c' ? door(c[1], 0) : c[0] == 'w' ? pass(c[1])
                : c[0] == 'd' ? deliver(c[1]) : repair(c[1], c[2]);
            if (answer < 0) {
                bad = k;
            }
        }
        inScript = false;
        if (bad >= 0) {
            s = before;
            return -300000 - bad;
        }
        State after = s;
        s = before;
        save();
        s = after;
        text.setLength(0);
        return commands.size();
    }

    /** Reads sign by sign: the phase tells what may stand at a place. */
    private int parse(List<int[]> commands) {
        String phase = "letter";
        int[] command = null;
        int filled = 0;
        for (int k = 0; k < text.length(); k++) {
            char sign = text.charAt(k);
            if (sign == ' ') {
                continue;
            }
            if (phase.equals("letter")) {
                if ("ocwdr".indexOf(sign) < 0) {
                    return k;
                }
                command = new int[] {sign, 0, 0};
                filled = 0;
                phase = "number";
            } else if (phase.equals("number")) {
                if (sign < '0' || sign > '9') {
                    return k;
                }
                String digits = text.substring(k).split("[^0-9]", 2)[0];
                if (digits.length() > 3 || (digits.length() > 1 && digits.startsWith("0"))) {
                    return k;
                }
                filled++;
                command[filled] = Integer.parseInt(digits);
                k += digits.length() - 1;
                phase = "end";
            } else if (sign == '.' && command[0] == 'r' && filled == 1) {
                phase = "number";
            } else if (sign == ';' && filled == (command[0] == 'r' ? 2 : 1)) {
                commands.add(command);
                phase = "letter";
            } else {
                return k;
            }
        }
        return phase.equals("letter") ? -1 : text.length();
    }

    int count(int what) {
        if (out(what, 0, 8)) {
            return INVALID;
        }
        int found = 0;
        for (Van v : s.vans) {
            for (Probe p : v.probes) {
                found += p.found ? 1 : 0;
            }
        }
        int[] all = {s.vans.size(), s.loads.size(), s.time, s.numbers[0], s.numbers[1], s.numbers[2],
            text.length(), saved.size(), found};
        return all[what];
    }

    int van(int van, int what) {
        if (noVan(van) || out(what, 0, 3)) {
            return INVALID;
        }
        Van v = s.vans.get(van);
        int set = 0;
        for (int k = 0; k < s.loads.size(); k++) {
            if (s.loads.get(k).van == van && s.loads.get(k).state == 0) {
                set += 1 << k;
            }
        }
        return new int[] {v.setPoint, v.cooling, v.open ? 1 : 0, set}[what];
    }

    int zone(int van, int zone, int what) {
        if (noVan(van) || out(zone, 0, 2) || out(what, 0, 5)) {
            return INVALID;
        }
        Van v = s.vans.get(van);
        Probe p = v.probes[zone];
        return new int[] {v.warmth[zone], v.reading(zone), v.told(zone), p.mode, p.found ? 1 : 0, p.odd}[what];
    }

    private static int cause(Load l) {
        if (l.state < 2) {
            return 0;
        }
        return l.open + l.closed <= l.allowance ? 3 : l.open >= l.closed ? 1 : 2;
    }

    int pallet(int pallet, int what) {
        if (noLoad(pallet) || out(what, 0, 10)) {
            return INVALID;
        }
        Load l = s.loads.get(pallet);
        return new int[] {l.van, l.zone, l.limit, l.allowance, l.value, l.state, l.open, l.closed, l.told,
            cause(l), l.part}[what];
    }

    int claims(int cause) {
        if (out(cause, 0, 3)) {
            return INVALID;
        }
        int[] sums = new int[4];
        for (Load l : s.loads) {
            if (l.state < 2) {
                continue;
            }
            int claim = l.value + l.part;
            sums[0] += claim;
            if (cause(l) == 3) {
                sums[3] += claim;
            } else {
                int first = claim * l.open / (l.open + l.closed);
                sums[1] += first;
                sums[2] += claim - first;
            }
        }
        return sums[cause];
    }

    int log(int van, int zone, int time, int told) {
        if (noVan(van) || out(zone, 0, 2) || time < 1 || out(told, 0, 1)) {
            return INVALID;
        }
        Van v = s.vans.get(van);
        if (time > s.time || v.since >= time) {
            return NONE;
        }
        return v.entries.get(time - v.since - 1)[3 * told + zone];
    }

    int warm(int van, int zone, int limit, int from, int to, int told) {
        if (noVan(van) || out(zone, 0, 2) || out(limit, -300, 300) || from < 0 || to < from || out(told, 0, 1)) {
            return INVALID;
        }
        int minutes = 0;
        for (int time = 1; time <= s.time; time++) {
            int entry = log(van, zone, time, told);
            if (time > from && time <= to && entry != NONE && entry > limit) {
                minutes++;
            }
        }
        return minutes;
    }

    int minutesLeft(int pallet) {
        if (noLoad(pallet)) {
            return INVALID;
        }
        if (s.loads.get(pallet).state != 0) {
            return ILLEGAL;
        }
        State ahead = s.copy();
        for (int k = 0; k <= 300; k++) {
            if (ahead.loads.get(pallet).told > ahead.loads.get(pallet).allowance) {
                return k;
            }
            minute(ahead);
        }
        return NONE;
    }

    int longestOpen(int van) {
        if (noVan(van)) {
            return INVALID;
        }
        int best = NONE;
        for (int open = 0; open <= 60; open++) {
            State ahead = s.copy();
            for (int k = 0; k < 60; k++) {
                ahead.vans.get(van).open = k < open;
                minute(ahead);
            }
            boolean fine = true;
            for (Load l : ahead.loads) {
                if (l.state == 0 && l.van == van && l.told > l.allowance) {
                    fine = false;
                }
            }
            if (fine) {
                best = open;
            }
        }
        return best;
    }

    int undo() {
        if (saved.isEmpty()) {
            return ILLEGAL;
        }
        s = saved.removeLast();
        return saved.size();
    }
}
