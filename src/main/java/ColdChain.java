/**
 * Vans of a cold chain, with their zones, probes, pallets, detours, claims, log, script and undo.
 *
 * <p>No call throws: what is not possible is answered by an error code, and changes nothing. All
 * rows are made in the constructor and used again, so that no later call makes an object.
 */
public final class ColdChain {
    public static final int INVALID_ARGUMENT = -100001;
    public static final int ILLEGAL_STATE = -100002;
    public static final int CAPACITY_EXCEEDED = -100003;
    public static final int NONE = -100009;

    private static final int MOST_VANS = 3;
    private static final int ZONES = 3;
    private static final int MOST_PALLETS = 12;
    private static final int MOST_IN_ZONE = 3;
    private static final int LAST_TIME = 600;
    private static final int LONGEST_PASS = 300;
    private static final int LONGEST_LOOK = 300;
    private static final int OPEN_LOOK = 60;
    private static final int MOST_SAVED = 6;
    private static final int TEXT_ROOM = 80;
    private static final int TEXT_ERROR = -200000;
    private static final int COMMAND_ERROR = -300000;

    private static final int RIGHT = 0;
    private static final int SHIFTED = 1;
    private static final int STUCK = 2;

    private static final int IN_VAN = 0;
    private static final int ACCEPTED = 1;
    private static final int REJECTED = 2;
    private static final int BROUGHT_BACK = 3;

    private static final int BY_DOOR = 1;
    private static final int BY_COOLING = 2;
    private static final int BY_PROBE = 3;

    /** How much of the difference to the outside an open door lets into each zone, in percent. */
    private static final int[] WARMING = {3, 6, 12};

    private final State now = new State();
    private final State trial = new State();
    // One more than can be saved: the free one holds the state ahead of an edit that may still fail.
    private final State[] saved = new State[MOST_SAVED + 1];
    private int free;
    private int savedCount;
    // Undo needs no copy of it: entries up to a saved time are never written again after the saving,
    // and entries after the present time are never told.
    private final History history = new History();
    private final Script script = new Script();

    public ColdChain() {
        for (int k = 0; k < saved.length; k++) {
            saved[k] = new State();
        }
    }

    // ---- vans and probes

    public int addVan(int setPoint, int cooling) {
        noteState();
        return kept(now.putVan(setPoint, cooling));
    }

    public int setNumber(int what, int value) {
        noteState();
        return kept(now.changeNumber(what, value));
    }

    public int setVan(int van, int setPoint, int cooling) {
        noteState();
        return kept(now.changeVan(van, setPoint, cooling));
    }

    public int setProbe(int van, int zone, int mode, int value) {
        noteState();
        return kept(now.changeProbe(van, zone, mode, value));
    }

    public int repair(int van, int zone) {
        noteState();
        return kept(now.mendProbe(van, zone));
    }

    // ---- pallets and time

    public int loadPallet(int van, int zone, int limit, int allowance, int value) {
        noteState();
        return kept(now.putPallet(van, zone, limit, allowance, value));
    }

    public int door(int van, int open) {
        noteState();
        return kept(now.turnDoor(van, open));
    }

    public int pass(int minutes) {
        noteState();
        return kept(now.letPass(minutes, history));
    }

    public int deliver(int pallet) {
        noteState();
        return kept(now.handOver(pallet));
    }

    public int detour(int pallets, int cost) {
        noteState();
        return kept(now.bringBack(pallets, cost));
    }

    // ---- script

    public int appendCharacter(int character) {
        return script.append(character);
    }

    public int clearText() {
        int previous = script.length;
        script.length = 0;
        return previous;
    }

    public int runScript() {
        int error = script.read();
        if (error != Script.FINE) {
            return TEXT_ERROR - error;
        }
        noteState();
        int commands = script.commandCount;
        for (int k = 0; k < commands; k++) {
            if (isError(runCommand(k))) {
                now.copyFrom(saved[free]);
                return COMMAND_ERROR - k;
            }
        }
        script.length = 0;
        return kept(commands);
    }

    // ---- looking

    public int count(int what) {
        switch (what) {
            case 0: return now.vanCount;
            case 1: return now.palletCount;
            case 2: return now.time;
            case 3: return now.outside;
            case 4: return now.difference;
            case 5: return now.patience;
            case 6: return script.length;
            case 7: return savedCount;
            case 8: return now.foundProbes();
            default: return INVALID_ARGUMENT;
        }
    }

    public int van(int van, int what) {
        if (!now.hasVan(van)) {
            return INVALID_ARGUMENT;
        }
        Van asked = now.vans[van];
        switch (what) {
            case 0: return asked.setPoint;
            case 1: return asked.cooling;
            case 2: return asked.open ? 1 : 0;
            case 3: return now.palletsIn(van);
            default: return INVALID_ARGUMENT;
        }
    }

    public int zone(int van, int zone, int what) {
        if (!now.hasZone(van, zone)) {
            return INVALID_ARGUMENT;
        }
        Zone asked = now.vans[van].zones[zone];
        switch (what) {
            case 0: return asked.temperature;
            case 1: return asked.reading();
            case 2: return now.vans[van].toldIn(zone);
            case 3: return asked.mode;
            case 4: return asked.found ? 1 : 0;
            case 5: return asked.oddMinutes;
            default: return INVALID_ARGUMENT;
        }
    }

    public int pallet(int pallet, int what) {
        if (!now.hasPallet(pallet)) {
            return INVALID_ARGUMENT;
        }
        return now.pallets[pallet].property(what);
    }

    public int claims(int cause) {
        if (!isWithin(cause, 0, BY_PROBE)) {
            return INVALID_ARGUMENT;
        }
        int sum = 0;
        for (int k = 0; k < now.palletCount; k++) {
            Pallet pallet = now.pallets[k];
            sum += cause == 0 ? pallet.claim() : pallet.claimBy(cause);
        }
        return sum;
    }

    public int log(int van, int zone, int time, int told) {
        if (!now.hasZone(van, zone) || time < 1 || !isWithin(told, 0, 1)) {
            return INVALID_ARGUMENT;
        }
        if (time > now.time || now.vans[van].addedAt >= time) {
            return NONE;
        }
        return history.row(van, zone, told)[time];
    }

    public int warm(int van, int zone, int limit, int from, int to, int told) {
        if (!now.hasZone(van, zone) || !isLimit(limit)) {
            return INVALID_ARGUMENT;
        }
        if (from < 0 || to < from || !isWithin(told, 0, 1)) {
            return INVALID_ARGUMENT;
        }
        int[] row = history.row(van, zone, told);
        int last = Math.min(to, now.time);
        int minutes = 0;
        // The van's first entry and the last one bound the row, whatever was asked for.
        for (int time = now.vans[van].addedAt + 1; time <= last; time++) {
            if (time > from && row[time] > limit) {
                minutes++;
            }
        }
        return minutes;
    }

    // ---- what would be (nothing changes; the time can become greater than 600 in them)

    public int minutesLeft(int pallet) {
        if (!now.hasPallet(pallet)) {
            return INVALID_ARGUMENT;
        }
        if (now.pallets[pallet].state != IN_VAN) {
            return ILLEGAL_STATE;
        }
        trial.copyFrom(now);
        Pallet watched = trial.pallets[pallet];
        for (int minutes = 0; minutes <= LONGEST_LOOK; minutes++) {
            if (watched.isOverdue()) {
                return minutes;
            }
            trial.minuteInVan(watched.van);
        }
        return NONE;
    }

    public int longestOpen(int van) {
        if (!now.hasVan(van)) {
            return INVALID_ARGUMENT;
        }
        for (int minutes = OPEN_LOOK; minutes >= 0; minutes--) {
            if (mayBeOpen(van, minutes)) {
                return minutes;
            }
        }
        return NONE;
    }

    public int undo() {
        if (savedCount == 0) {
            return ILLEGAL_STATE;
        }
        free = free == 0 ? MOST_SAVED : free - 1;
        now.copyFrom(saved[free]);
        savedCount--;
        return savedCount;
    }

    // ---- helpers

    private void noteState() {
        saved[free].copyFrom(now);
    }

    /** Saves the noted state if the answer is that of a successful edit; hands the answer on. */
    private int kept(int answer) {
        if (!isError(answer)) {
            free = free == MOST_SAVED ? 0 : free + 1;
            savedCount = Math.min(savedCount + 1, MOST_SAVED);
        }
        return answer;
    }

    /** Previous set points and temperatures are answers below 0, but far above every error code. */
    private static boolean isError(int answer) {
        return answer <= INVALID_ARGUMENT;
    }

    private int runCommand(int number) {
        int first = script.firsts[number];
        switch (script.letters[number]) {
            case 'o': return now.turnDoor(first, 1);
            case 'c': return now.turnDoor(first, 0);
            case 'w': return now.letPass(first, history);
            case 'd': return now.handOver(first);
            default: return now.mendProbe(first, script.seconds[number]);
        }
    }

    private boolean mayBeOpen(int van, int minutes) {
        trial.copyFrom(now);
        for (int k = 0; k < OPEN_LOOK; k++) {
            // Told minutes never become fewer, so that a trial that has failed stays so.
            if (trial.hasOverdue(van)) {
                return false;
            }
            trial.vans[van].open = k < minutes;
            trial.minuteInVan(van);
        }
        return !trial.hasOverdue(van);
    }

    private static boolean isWithin(int number, int low, int high) {
        return number >= low && number <= high;
    }

    private static boolean isVanSetting(int setPoint, int cooling) {
        return isWithin(setPoint, -300, 100) && isWithin(cooling, 0, 30);
    }

    private static boolean isProbeSetting(int mode, int value) {
        switch (mode) {
            case RIGHT: return value == 0;
            case SHIFTED: return isWithin(value, -200, 200);
            case STUCK: return isWithin(value, -300, 450);
            default: return false;
        }
    }

    private static boolean isLimit(int limit) {
        return isWithin(limit, -300, 300);
    }

    private static boolean isPrice(int price) {
        return isWithin(price, 0, 9999);
    }

    /** A zone of a van with its probe. */
    private static final class Zone {
        int temperature;
        int mode;
        int value;
        boolean found;
        int oddMinutes;

        void copyFrom(Zone other) {
            temperature = other.temperature;
            mode = other.mode;
            value = other.value;
            found = other.found;
            oddMinutes = other.oddMinutes;
        }

        void mend() {
            mode = RIGHT;
            value = 0;
            found = false;
            oddMinutes = 0;
        }

        int reading() {
            if (mode == STUCK) {
                return value;
            }
            return mode == SHIFTED ? temperature + value : temperature;
        }

        void coolTo(int setPoint, int cooling) {
            if (temperature > setPoint) {
                temperature = Math.max(temperature - cooling, setPoint);
            } else if (temperature < setPoint) {
                temperature++;
            }
        }
    }

    /** A van with its door and its zones, from the front to the door. */
    private static final class Van {
        int setPoint;
        int cooling;
        boolean open;
        int addedAt;
        final Zone[] zones = new Zone[ZONES];

        Van() {
            for (int z = 0; z < ZONES; z++) {
                zones[z] = new Zone();
            }
        }

        void copyFrom(Van other) {
            setPoint = other.setPoint;
            cooling = other.cooling;
            open = other.open;
            addedAt = other.addedAt;
            for (int z = 0; z < ZONES; z++) {
                zones[z].copyFrom(other.zones[z]);
            }
        }

        void start(int firstSetPoint, int firstCooling, int time) {
            setPoint = firstSetPoint;
            cooling = firstCooling;
            open = false;
            addedAt = time;
            for (int z = 0; z < ZONES; z++) {
                zones[z].mend();
                zones[z].temperature = firstSetPoint;
            }
        }

        void changeTemperatures(int outside) {
            for (int z = 0; z < ZONES; z++) {
                Zone zone = zones[z];
                if (open) {
                    zone.temperature += (outside - zone.temperature) * WARMING[z] / 100;
                } else {
                    zone.coolTo(setPoint, cooling);
                }
            }
        }

        void mixAir() {
            for (int z = 0; z + 1 < ZONES; z++) {
                int moved = (zones[z].temperature - zones[z + 1].temperature) / 10;
                zones[z].temperature -= moved;
                zones[z + 1].temperature += moved;
            }
        }

        /** Compares the probes for a minute; answers how many are found in it. */
        int findProbes(int difference, int patience) {
            int newlyFound = 0;
            for (int z = 0; z < ZONES; z++) {
                Zone zone = zones[z];
                zone.oddMinutes = isOdd(z, difference) ? zone.oddMinutes + 1 : 0;
                if (zone.oddMinutes >= patience && !zone.found) {
                    zone.found = true;
                    newlyFound++;
                }
            }
            return newlyFound;
        }

        private boolean isOdd(int z, int difference) {
            int own = zones[z].reading();
            int next = zones[(z + 1) % ZONES].reading();
            int last = zones[(z + 2) % ZONES].reading();
            return Math.abs(own - next) > difference
                && Math.abs(own - last) > difference
                && Math.abs(next - last) <= difference;
        }

        int toldIn(int z) {
            if (!zones[z].found) {
                return zones[z].reading();
            }
            int next = zones[(z + 1) % ZONES].reading();
            int last = zones[(z + 2) % ZONES].reading();
            return Math.floorDiv(next + last, 2);
        }
    }

    private static final class Pallet {
        int van;
        int zone;
        int limit;
        int allowance;
        int value;
        int state;
        int openMinutes;
        int closedMinutes;
        int toldMinutes;
        int part;

        void copyFrom(Pallet other) {
            van = other.van;
            zone = other.zone;
            limit = other.limit;
            allowance = other.allowance;
            value = other.value;
            state = other.state;
            openMinutes = other.openMinutes;
            closedMinutes = other.closedMinutes;
            toldMinutes = other.toldMinutes;
            part = other.part;
        }

        void start(int itsVan, int itsZone, int itsLimit, int itsAllowance, int itsValue) {
            van = itsVan;
            zone = itsZone;
            limit = itsLimit;
            allowance = itsAllowance;
            value = itsValue;
            state = IN_VAN;
            openMinutes = 0;
            closedMinutes = 0;
            toldMinutes = 0;
            part = 0;
        }

        boolean isIn(int askedVan) {
            return state == IN_VAN && van == askedVan;
        }

        boolean isOverdue() {
            return toldMinutes > allowance;
        }

        void addMinute(Van its) {
            if (its.zones[zone].temperature > limit) {
                if (its.open) {
                    openMinutes++;
                } else {
                    closedMinutes++;
                }
            }
            if (its.toldIn(zone) > limit) {
                toldMinutes++;
            }
        }

        boolean wasRejected() {
            return state == REJECTED || state == BROUGHT_BACK;
        }

        int cause() {
            if (!wasRejected()) {
                return 0;
            }
            if (openMinutes + closedMinutes <= allowance) {
                return BY_PROBE;
            }
            return openMinutes >= closedMinutes ? BY_DOOR : BY_COOLING;
        }

        int claim() {
            return wasRejected() ? value + part : 0;
        }

        int claimBy(int asked) {
            int cause = cause();
            if (cause == BY_PROBE || asked == BY_PROBE) {
                return cause == asked ? claim() : 0;
            }
            int warmMinutes = openMinutes + closedMinutes;
            int byDoor = warmMinutes > 0 ? claim() * openMinutes / warmMinutes : 0;
            return asked == BY_DOOR ? byDoor : claim() - byDoor;
        }

        int property(int what) {
            switch (what) {
                case 0: return van;
                case 1: return zone;
                case 2: return limit;
                case 3: return allowance;
                case 4: return value;
                case 5: return state;
                case 6: return openMinutes;
                case 7: return closedMinutes;
                case 8: return toldMinutes;
                case 9: return cause();
                case 10: return part;
                default: return INVALID_ARGUMENT;
            }
        }
    }

    /** All that undo() restores, and the edits of it; an edit with an error code changes nothing. */
    private static final class State {
        int time;
        int outside = 200;
        int difference = 30;
        int patience = 3;
        int vanCount;
        int palletCount;
        final Van[] vans = new Van[MOST_VANS];
        final Pallet[] pallets = new Pallet[MOST_PALLETS];

        State() {
            for (int v = 0; v < MOST_VANS; v++) {
                vans[v] = new Van();
            }
            for (int k = 0; k < MOST_PALLETS; k++) {
                pallets[k] = new Pallet();
            }
        }

        void copyFrom(State other) {
            time = other.time;
            outside = other.outside;
            difference = other.difference;
            patience = other.patience;
            vanCount = other.vanCount;
            palletCount = other.palletCount;
            for (int v = 0; v < MOST_VANS; v++) {
                vans[v].copyFrom(other.vans[v]);
            }
            for (int k = 0; k < MOST_PALLETS; k++) {
                pallets[k].copyFrom(other.pallets[k]);
            }
        }

        boolean hasVan(int van) {
            return van >= 0 && van < vanCount;
        }

        boolean hasZone(int van, int zone) {
            return hasVan(van) && isWithin(zone, 0, ZONES - 1);
        }

        boolean hasPallet(int pallet) {
            return pallet >= 0 && pallet < palletCount;
        }

        int foundProbes() {
            int sum = 0;
            for (int v = 0; v < vanCount; v++) {
                for (int z = 0; z < ZONES; z++) {
                    if (vans[v].zones[z].found) {
                        sum++;
                    }
                }
            }
            return sum;
        }

        int palletsIn(int van) {
            int set = 0;
            for (int k = 0; k < palletCount; k++) {
                if (pallets[k].isIn(van)) {
                    set |= 1 << k;
                }
            }
            return set;
        }

        private int palletsInZone(int van, int zone) {
            int sum = 0;
            for (int k = 0; k < palletCount; k++) {
                if (pallets[k].isIn(van) && pallets[k].zone == zone) {
                    sum++;
                }
            }
            return sum;
        }

        boolean hasOverdue(int van) {
            for (int k = 0; k < palletCount; k++) {
                if (pallets[k].isIn(van) && pallets[k].isOverdue()) {
                    return true;
                }
            }
            return false;
        }

        int putVan(int setPoint, int cooling) {
            if (!isVanSetting(setPoint, cooling)) {
                return INVALID_ARGUMENT;
            }
            if (vanCount >= MOST_VANS) {
                return CAPACITY_EXCEEDED;
            }
            int number = vanCount;
            vans[number].start(setPoint, cooling, time);
            vanCount++;
            return number;
        }

        int changeNumber(int what, int value) {
            int previous;
            if (what == 0 && isWithin(value, -200, 450)) {
                previous = outside;
                outside = value;
            } else if (what == 1 && isWithin(value, 5, 100)) {
                previous = difference;
                difference = value;
            } else if (what == 2 && isWithin(value, 1, 30)) {
                previous = patience;
                patience = value;
            } else {
                previous = INVALID_ARGUMENT;
            }
            return previous;
        }

        int changeVan(int van, int setPoint, int cooling) {
            if (!hasVan(van) || !isVanSetting(setPoint, cooling)) {
                return INVALID_ARGUMENT;
            }
            int previous = vans[van].setPoint;
            vans[van].setPoint = setPoint;
            vans[van].cooling = cooling;
            return previous;
        }

        int changeProbe(int van, int zone, int mode, int value) {
            if (!hasZone(van, zone) || !isProbeSetting(mode, value)) {
                return INVALID_ARGUMENT;
            }
            Zone changed = vans[van].zones[zone];
            int previous = changed.mode;
            changed.mode = mode;
            changed.value = value;
            return previous;
        }

        int mendProbe(int van, int zone) {
            if (!hasZone(van, zone)) {
                return INVALID_ARGUMENT;
            }
            Zone mended = vans[van].zones[zone];
            int wasFound = mended.found ? 1 : 0;
            mended.mend();
            return wasFound;
        }

        int putPallet(int van, int zone, int limit, int allowance, int value) {
            if (!hasZone(van, zone) || !isLimit(limit)) {
                return INVALID_ARGUMENT;
            }
            if (!isWithin(allowance, 0, 600) || !isPrice(value)) {
                return INVALID_ARGUMENT;
            }
            if (!vans[van].open) {
                return ILLEGAL_STATE;
            }
            if (palletCount >= MOST_PALLETS || palletsInZone(van, zone) >= MOST_IN_ZONE) {
                return CAPACITY_EXCEEDED;
            }
            int number = palletCount;
            pallets[number].start(van, zone, limit, allowance, value);
            palletCount++;
            return number;
        }

        int turnDoor(int van, int open) {
            if (!hasVan(van) || !isWithin(open, 0, 1)) {
                return INVALID_ARGUMENT;
            }
            boolean opened = open == 1;
            if (vans[van].open == opened) {
                return ILLEGAL_STATE;
            }
            vans[van].open = opened;
            return Integer.bitCount(palletsIn(van));
        }

        int letPass(int minutes, History history) {
            if (!isWithin(minutes, 1, LONGEST_PASS)) {
                return INVALID_ARGUMENT;
            }
            if (time + minutes > LAST_TIME) {
                return CAPACITY_EXCEEDED;
            }
            int newlyFound = 0;
            for (int k = 0; k < minutes; k++) {
                time++;
                for (int v = 0; v < vanCount; v++) {
                    newlyFound += minuteInVan(v);
                    history.write(v, time, vans[v]);
                }
            }
            return newlyFound;
        }

        /** Lets a minute pass in one van; answers how many of its probes are found in it. */
        int minuteInVan(int number) {
            Van van = vans[number];
            van.changeTemperatures(outside);
            van.mixAir();
            int newlyFound = van.findProbes(difference, patience);
            for (int k = 0; k < palletCount; k++) {
                if (pallets[k].isIn(number)) {
                    pallets[k].addMinute(van);
                }
            }
            return newlyFound;
        }

        int handOver(int number) {
            if (!hasPallet(number)) {
                return INVALID_ARGUMENT;
            }
            Pallet pallet = pallets[number];
            if (pallet.state != IN_VAN || !vans[pallet.van].open) {
                return ILLEGAL_STATE;
            }
            pallet.state = pallet.isOverdue() ? REJECTED : ACCEPTED;
            return pallet.state;
        }

        int bringBack(int set, int cost) {
            if (set < 1 || set >= (1 << palletCount) || !isPrice(cost)) {
                return INVALID_ARGUMENT;
            }
            for (int k = 0; k < palletCount; k++) {
                if (isIn(set, k) && pallets[k].state != REJECTED) {
                    return ILLEGAL_STATE;
                }
            }
            shareByValues(set, cost);
            return shareRest(set, cost);
        }

        private static boolean isIn(int set, int k) {
            return ((set >> k) & 1) == 1;
        }

        private void shareByValues(int set, int cost) {
            int values = 0;
            for (int k = 0; k < palletCount; k++) {
                if (isIn(set, k)) {
                    values += pallets[k].value;
                }
            }
            int number = Integer.bitCount(set);
            for (int k = 0; k < palletCount; k++) {
                if (isIn(set, k)) {
                    pallets[k].state = BROUGHT_BACK;
                    if (values > 0) {
                        pallets[k].part = cost * pallets[k].value / values;
                    } else if (number > 0) {
                        pallets[k].part = cost / number;
                    }
                }
            }
        }

        /** Gives what the parts leave of the cost, one to each; answers the greatest part. */
        private int shareRest(int set, int cost) {
            int rest = cost;
            for (int k = 0; k < palletCount; k++) {
                if (isIn(set, k)) {
                    rest -= pallets[k].part;
                }
            }
            int greatest = 0;
            for (int k = 0; k < palletCount; k++) {
                if (isIn(set, k)) {
                    if (rest > 0) {
                        pallets[k].part++;
                        rest--;
                    }
                    greatest = Math.max(greatest, pallets[k].part);
                }
            }
            return greatest;
        }
    }

    /** The log: a row for each zone, by the time. */
    private static final class History {
        final int[][] temperatures = new int[MOST_VANS * ZONES][LAST_TIME + 1];
        final int[][] toldOnes = new int[MOST_VANS * ZONES][LAST_TIME + 1];

        void write(int number, int time, Van van) {
            for (int z = 0; z < ZONES; z++) {
                row(number, z, 0)[time] = van.zones[z].temperature;
                row(number, z, 1)[time] = van.toldIn(z);
            }
        }

        int[] row(int van, int zone, int told) {
            int number = van * ZONES + zone;
            return told == 0 ? temperatures[number] : toldOnes[number];
        }
    }

    /** The text and the commands that were read from it. */
    private static final class Script {
        static final int FINE = -1;
        private static final int NO_NUMBER = -1;
        private static final int MOST_DIGITS = 3;

        final char[] text = new char[TEXT_ROOM];
        int length;
        private int at;
        // A command takes at least one character, so that a row as long as the text has room for all.
        final int[] letters = new int[TEXT_ROOM];
        final int[] firsts = new int[TEXT_ROOM];
        final int[] seconds = new int[TEXT_ROOM];
        int commandCount;

        int append(int character) {
            if (!isWithin(character, 0, 255)) {
                return INVALID_ARGUMENT;
            }
            if (length >= TEXT_ROOM) {
                return CAPACITY_EXCEEDED;
            }
            text[length] = (char) character;
            length++;
            return length;
        }

        /** Reads the text into commands; answers the error position, or FINE. */
        int read() {
            at = 0;
            commandCount = 0;
            skipSpaces();
            while (at < length && commandCount < TEXT_ROOM) {
                if (!readCommand(commandCount)) {
                    return at;
                }
                commandCount++;
                skipSpaces();
            }
            return FINE;
        }

        /** Where it answers false, the reading stands at the error position; so in all below. */
        private boolean readCommand(int number) {
            char letter = text[at];
            if (!isLetter(letter)) {
                return false;
            }
            at++;
            letters[number] = letter;
            firsts[number] = readNumber();
            if (firsts[number] == NO_NUMBER) {
                return false;
            }
            if (letter == 'r') {
                if (!readSign('.')) {
                    return false;
                }
                seconds[number] = readNumber();
                if (seconds[number] == NO_NUMBER) {
                    return false;
                }
            }
            return readSign(';');
        }

        private int readNumber() {
            skipSpaces();
            int end = at;
            while (end < length && isDigit(text[end])) {
                end++;
            }
            int digits = end - at;
            if (digits == 0 || digits > MOST_DIGITS || (digits > 1 && text[at] == '0')) {
                return NO_NUMBER;
            }
            int number = 0;
            for (int k = at; k < end; k++) {
                number = number * 10 + (text[k] - '0');
            }
            at = end;
            return number;
        }

        private boolean readSign(char sign) {
            skipSpaces();
            if (at >= length || text[at] != sign) {
                return false;
            }
            at++;
            return true;
        }

        private void skipSpaces() {
            while (at < length && text[at] == ' ') {
                at++;
            }
        }

        private static boolean isLetter(char sign) {
            return sign == 'o' || sign == 'c' || sign == 'w' || sign == 'd' || sign == 'r';
        }

        private static boolean isDigit(char sign) {
            return sign >= '0' && sign <= '9';
        }
    }
}
