/**
 * A plate that counts raindrops by their impacts. What it must do is told in the document, promise
 * by promise; README.md tells how to use it.
 */
public final class ImpactPlate {
    /** There is no such result. */
    public static final int NONE = -9;

    private static final int COUNTED = 0;
    private static final int MERGED = 1;
    private static final int HIDDEN = 2;
    private static final int FAINT = 3;

    private static final int TILT = 0;
    private static final int WINDOW = 1;
    private static final int DAMPING = 2;
    private static final int NOISE = 3;
    private static final int SATURATION = 4;
    private static final int[] LEAST_SETTING = {0, 0, 1, 1, 500};
    private static final int[] GREATEST_SETTING = {40, 20, 9, 200, 5000};

    private static final int LAST_BIN = 7;
    private static final int GREATEST_AMPLITUDE = 5000;
    // 5000 is less than 2 to the 13th, so that many halvings leave nothing of any amplitude
    private static final int HALVINGS_TO_SILENCE = 13;
    private static final int TICKS_TO_SILENCE = 117;

    private static final int GREATEST_TICKS = 99;
    private static final int GREATEST_SIZE = 60;
    private static final int TRACE_CAPACITY = 60;
    private static final int RECORD_CAPACITY = 40;
    private static final int TEXT_CAPACITY = 100;
    private static final int MEMORY_CAPACITY = 14;
    private static final int LONGEST_PATTERN = 8;
    private static final int LONGEST_SCRIPT = 3;
    private static final int SCRIPT_GROUP = 100000;

    private final Text text = new Text();
    private final State now = new State();
    // never changed: what a new object holds, kept so that nothing has to be made anew
    private final State fresh = new State();
    private final State scratch = new State();
    private final State[] memories = new State[MEMORY_CAPACITY];
    private int nextMemory = 0;
    private int memoryCount = 0;
    private final State firstSlot = new State();
    private final State secondSlot = new State();
    private boolean firstSlotFilled = false;
    private boolean secondSlotFilled = false;

    /** Creates a plate on which nothing fell. */
    public ImpactPlate() {
        for (int i = 0; i < memories.length; i++) {
            memories[i] = new State();
        }
    }

    // ---- text

    /** Appends a character to the text buffer; returns the new length. */
    public int append(int c) throws IllegalArgumentException, IllegalStateException {
        if (isOutside(c, 0, 255)) {
            throw new IllegalArgumentException("a character code is 0 to 255");
        }
        if (text.isFull()) {
            throw new IllegalStateException("the text already has 100 characters");
        }
        return text.add(c);
    }

    /** Empties the text buffer; returns the previous length. */
    public int clearText() {
        return text.wipe();
    }

    /** Returns the error position of the text; NONE if it is a storm. */
    public int errorPosition() {
        return text.firstError();
    }

    /** Starts anew with what the text tells; returns the number of drops. */
    public int load() throws IllegalStateException {
        if (text.firstError() != NONE) {
            throw new IllegalStateException("the text is not a storm");
        }
        now.copyFrom(fresh);
        memoryCount = 0;
        firstSlotFilled = false;
        secondSlotFilled = false;
        int at = 1;
        for (int part = 0; part < TEXT_CAPACITY && at < text.length; part++) {
            runPart(at);
            at += text.partLength(at);
        }
        return now.accounts.dropCount();
    }

    // ---- what there is

    /** Returns a number of the plate and its drops. */
    public int about(int what) throws IllegalArgumentException {
        Plate plate = now.plate;
        Accounts accounts = now.accounts;
        switch (what) {
            case 0: return plate.tick;
            case 1: return accounts.dropCount();
            case 2: return accounts.countOf(COUNTED);
            case 3: return accounts.countOf(MERGED);
            case 4: return accounts.countOf(HIDDEN);
            case 5: return accounts.countOf(FAINT);
            case 6: return sumOf(plate.binPulses);
            case 7: return sumOf(plate.binSaturated);
            case 8: return plate.levelAt(plate.tick);
            case 9: return accounts.sizes.length;
            case 10: return accounts.fates.length;
            case 11: return plate.open ? 1 : 0;
            default: throw new IllegalArgumentException("what is 0 to 11");
        }
    }

    /** Returns a setting. */
    public int setting(int what) throws IllegalArgumentException {
        if (isOutside(what, TILT, SATURATION)) {
            throw new IllegalArgumentException("a setting is 0 to 4");
        }
        return now.plate.settings[what];
    }

    /** Returns a number of a bin. */
    public int bin(int k, int what) throws IndexOutOfBoundsException, IllegalArgumentException {
        if (isOutside(k, 0, LAST_BIN)) {
            throw new IndexOutOfBoundsException("a bin is 0 to 7");
        }
        Plate plate = now.plate;
        switch (what) {
            case 0: return plate.lowerEnd(k);
            case 1: return plate.upperEnd(k);
            case 2: return plate.binPulses[k];
            case 3: return plate.binSaturated[k];
            case 4: return plate.binDrops[k];
            default: throw new IllegalArgumentException("what is 0 to 4");
        }
    }

    /** Returns a number of the open pulse; NONE if no pulse is open. */
    public int pulse(int what) throws IllegalArgumentException {
        if (isOutside(what, 0, 3)) {
            throw new IllegalArgumentException("what is 0 to 3");
        }
        Plate plate = now.plate;
        if (!plate.open) {
            return NONE;
        }
        switch (what) {
            case 0: return plate.tick - plate.struckAt;
            case 1: return plate.amplitude;
            case 2: return plate.pulseDrops;
            default: return plate.saturated ? 1 : 0;
        }
    }

    /** Returns the fate of the drop that fell i drops before the latest; NONE if it is not in the trace. */
    public int fate(int i) throws IllegalArgumentException {
        if (i < 0) {
            throw new IllegalArgumentException("i is not negative");
        }
        return now.accounts.fates.back(i);
    }

    /** Returns the length of the longest run of a fate in the trace. */
    public int longest(int fate) throws IllegalArgumentException {
        if (isOutside(fate, COUNTED, FAINT)) {
            throw new IllegalArgumentException("a fate is 0 to 3");
        }
        return now.accounts.fates.longestRunOf(fate);
    }

    /** Returns at how many places of the trace a row of fates stands. */
    public int pattern(int n, int fates) throws IllegalArgumentException {
        if (isOutside(n, 1, LONGEST_PATTERN)) {
            throw new IllegalArgumentException("a pattern has 1 to 8 fates");
        }
        if (!areFates(n, fates)) {
            throw new IllegalArgumentException("fates are at most n digits from 0 to 3");
        }
        return now.accounts.fates.placesOf(n, fates);
    }

    /** Returns the rain that is reckoned from the closed pulses with a law. */
    public long rain(int law) throws IllegalArgumentException {
        if (isOutside(law, 0, 2)) {
            throw new IllegalArgumentException("a law is 0 to 2");
        }
        return now.plate.reckonedRain(law);
    }

    /** Returns the true rain of all drops so far. */
    public long trueRain() {
        return now.accounts.rainSum;
    }

    // ---- actions

    /** Lets a drop fall; returns its fate. */
    public int drop(int ticks, int size) throws IllegalArgumentException {
        if (!isFall(ticks, size)) {
            throw new IllegalArgumentException("ticks are 0 to 99, a size is 1 to 60");
        }
        remember();
        return now.letFall(ticks, size);
    }

    /** Lets ticks go by without drops; returns the level of the plate then. */
    public int pass(int ticks) throws IllegalArgumentException {
        if (isOutside(ticks, 1, GREATEST_TICKS)) {
            throw new IllegalArgumentException("ticks are 1 to 99");
        }
        remember();
        now.plate.letPass(ticks);
        return now.plate.levelAt(now.plate.tick);
    }

    /** Changes a setting; returns the previous one. */
    public int set(int what, int v) throws IllegalArgumentException {
        if (!isSetting(what, v)) {
            throw new IllegalArgumentException("there is no such setting, or v is out of its range");
        }
        remember();
        int previous = now.plate.settings[what];
        now.plate.settings[what] = v;
        return previous;
    }

    /** Changes a border; returns the previous one. */
    public int setBorder(int k, int v)
            throws IndexOutOfBoundsException, IllegalArgumentException, IllegalStateException {
        if (isOutside(k, 1, LAST_BIN)) {
            throw new IndexOutOfBoundsException("a border is 1 to 7");
        }
        if (isOutside(v, 1, GREATEST_AMPLITUDE)) {
            throw new IllegalArgumentException("a border lies at 1 to 5000");
        }
        if (!now.plate.wouldAscend(k, v)) {
            throw new IllegalStateException("each border is greater than the one before");
        }
        remember();
        int previous = now.plate.borders[k];
        now.plate.borders[k] = v;
        return previous;
    }

    /** Empties all bins; returns the number of pulses that were in them. */
    public int empty() {
        remember();
        int pulses = sumOf(now.plate.binPulses);
        now.plate.emptyBins();
        return pulses;
    }

    /** Takes back the last action that is remembered; returns how many states are still remembered. */
    public int undo() throws IllegalStateException {
        if (memoryCount < 1) {
            throw new IllegalStateException("no state is remembered");
        }
        nextMemory = nextMemory > 0 ? nextMemory - 1 : MEMORY_CAPACITY - 1;
        memoryCount--;
        now.copyFrom(memories[nextMemory]);
        return memoryCount;
    }

    // ---- what would be

    /** Returns the fate that a drop would have. */
    public int wouldBe(int ticks, int size) throws IllegalArgumentException {
        if (!isFall(ticks, size)) {
            throw new IllegalArgumentException("ticks are 0 to 99, a size is 1 to 60");
        }
        return now.plate.fateOf(now.plate.tick + ticks, now.plate.strengthOf(size));
    }

    /** Returns the smallest size of a drop that would be counted; NONE if there is none. */
    public int leastSize(int ticks) throws IllegalArgumentException {
        if (isOutside(ticks, 0, GREATEST_TICKS)) {
            throw new IllegalArgumentException("ticks are 0 to 99");
        }
        Plate plate = now.plate;
        for (int size = 1; size <= GREATEST_SIZE; size++) {
            if (plate.fateOf(plate.tick + ticks, plate.strengthOf(size)) == COUNTED) {
                return size;
            }
        }
        return NONE;
    }

    /** Returns the smallest number of ticks after which the level is at most this one. */
    public int quietIn(int level) throws IllegalArgumentException {
        if (isOutside(level, 0, GREATEST_AMPLITUDE)) {
            throw new IllegalArgumentException("a level is 0 to 5000");
        }
        Plate plate = now.plate;
        for (int ticks = 0; ticks < TICKS_TO_SILENCE; ticks++) {
            if (plate.levelAt(plate.tick + ticks) <= level) {
                return ticks;
            }
        }
        return TICKS_TO_SILENCE;
    }

    /** Returns how many drops of the record would have a fate with another window and damping. */
    public int replay(int window, int damping, int what) throws IllegalArgumentException {
        if (!isSetting(WINDOW, window) || !isSetting(DAMPING, damping) || isOutside(what, COUNTED, FAINT)) {
            throw new IllegalArgumentException("a window is 0 to 20, a damping 1 to 9, what 0 to 3");
        }
        return replayRecord(window, damping, what);
    }

    /** Returns the window with which the rain reckoned for the record differs least from the true one. */
    public int bestWindow(int law) throws IllegalArgumentException {
        if (isOutside(law, 0, 2)) {
            throw new IllegalArgumentException("a law is 0 to 2");
        }
        long due = now.accounts.rainOfRecord();
        int best = LEAST_SETTING[WINDOW];
        long leastError = 0;
        for (int window = LEAST_SETTING[WINDOW]; window <= GREATEST_SETTING[WINDOW]; window++) {
            replayRecord(window, now.plate.settings[DAMPING], COUNTED);
            scratch.plate.closePulse();
            long error = Math.abs(scratch.plate.reckonedRain(law) - due);
            if (window == LEAST_SETTING[WINDOW] || error < leastError) {
                leastError = error;
                best = window;
            }
        }
        return best;
    }

    // ---- scripts, simulations

    /** Runs a script on a copy; returns the index of the first command that fails, NONE if all succeed. */
    public int runScript(int n, long script) throws IllegalArgumentException {
        if (isOutside(n, 1, LONGEST_SCRIPT)) {
            throw new IllegalArgumentException("a script has 1 to 3 commands");
        }
        if (script < 0 || withoutLastGroups(script, n) != 0) {
            throw new IllegalArgumentException("a script has at most five digits a command");
        }
        scratch.copyFrom(now);
        for (int i = 0; i < n; i++) {
            int group = (int) (withoutLastGroups(script, n - 1 - i) % SCRIPT_GROUP);
            if (!runCommand(group)) {
                return i;
            }
        }
        return NONE;
    }

    /** Simulates m rounds on a copy; returns the counts of the four fates, two digits each. */
    public int simulate(long seed, int m) throws IllegalArgumentException {
        if (isOutside(m, 1, 99)) {
            throw new IllegalArgumentException("rounds are 1 to 99");
        }
        scratch.copyFrom(now);
        long x = seed;
        int result = 0;
        for (int round = 0; round < m; round++) {
            x = x * 6364136223846793005L + 1442695040888963407L;
            int r = (int) (x >>> 33);
            if (r % 16 == 0) {
                scratch.plate.settings[TILT] = r / 16 % 41;
            } else {
                result += weightOf(scratch.letFall(r / 1024 % 12, 1 + r / 16 % 60));
            }
        }
        return result;
    }

    // ---- save slots

    /** Stores the present state in a save slot; returns the tick. */
    public int save(int slot) throws IndexOutOfBoundsException {
        if (isOutside(slot, 0, 1)) {
            throw new IndexOutOfBoundsException("a save slot is 0 or 1");
        }
        if (slot == 0) {
            firstSlot.copyFrom(now);
            firstSlotFilled = true;
        } else {
            secondSlot.copyFrom(now);
            secondSlotFilled = true;
        }
        return now.plate.tick;
    }

    /** Replaces the state by the one in a save slot and forgets the remembered states; returns the tick then. */
    public int restore(int slot) throws IndexOutOfBoundsException, IllegalStateException {
        if (isOutside(slot, 0, 1)) {
            throw new IndexOutOfBoundsException("a save slot is 0 or 1");
        }
        boolean filled = slot == 0 ? firstSlotFilled : secondSlotFilled;
        if (!filled) {
            throw new IllegalStateException("nothing has been saved in this slot");
        }
        now.copyFrom(slot == 0 ? firstSlot : secondSlot);
        memoryCount = 0;
        return now.plate.tick;
    }

    // ---- helpers of the calls

    private void remember() {
        memories[nextMemory].copyFrom(now);
        nextMemory = nextMemory < MEMORY_CAPACITY - 1 ? nextMemory + 1 : 0;
        memoryCount = Math.min(memoryCount + 1, MEMORY_CAPACITY);
    }

    private void runPart(int at) {
        int number = text.numberAt(at + 1);
        switch (text.signAt(at)) {
            case 'd':
                now.letFall(number, text.numberAt(at + 3));
                break;
            case 'p':
                now.plate.letPass(number);
                break;
            case 't':
                now.plate.settings[TILT] = number;
                break;
            case 'w':
                now.plate.settings[WINDOW] = number;
                break;
            case 'g':
                now.plate.settings[DAMPING] = text.digitAt(at + 1);
                break;
            default:
                break;
        }
    }

    /** Leaves its plate in the scratch state, with the last pulse still open. */
    private int replayRecord(int window, int damping, int fate) {
        Plate plate = scratch.plate;
        plate.copyFrom(fresh.plate);
        plate.copySetupFrom(now.plate);
        plate.settings[WINDOW] = window;
        plate.settings[DAMPING] = damping;
        Accounts accounts = now.accounts;
        int found = 0;
        for (int i = accounts.sizes.length - 1; i >= 0; i--) {
            if (plate.receive(accounts.gaps.back(i), accounts.sizes.back(i)) == fate) {
                found++;
            }
        }
        return found;
    }

    private boolean runCommand(int group) {
        int second = group / 1000 % 10;
        int third = group / 100 % 10;
        int lastTwo = group % 100;
        int lastThree = group % 1000;
        int lastFour = group % 10000;
        Plate plate = scratch.plate;
        switch (group / 10000) {
            case 1: return scriptedFall(lastFour / 100, lastTwo);
            case 2: return second == 0 && third == 0 && scriptedPass(lastTwo);
            case 3: return scriptedSetting(second, lastThree);
            case 4: return third == 0 && second <= FAINT && scratch.accounts.countOf(second) >= lastTwo;
            case 5: return second <= LAST_BIN && plate.binPulses[second] >= lastThree;
            case 6: return plate.levelAt(plate.tick) >= lastFour;
            case 7: return lastFour <= FAINT && scratch.accounts.fates.back(0) == lastFour;
            case 8: return lastFour == (plate.open ? 1 : 0);
            default: return false;
        }
    }

    private boolean scriptedFall(int ticks, int size) {
        if (!isFall(ticks, size)) {
            return false;
        }
        scratch.letFall(ticks, size);
        return true;
    }

    private boolean scriptedPass(int ticks) {
        if (isOutside(ticks, 1, GREATEST_TICKS)) {
            return false;
        }
        scratch.plate.letPass(ticks);
        return true;
    }

    private boolean scriptedSetting(int what, int v) {
        if (!isSetting(what, v)) {
            return false;
        }
        scratch.plate.settings[what] = v;
        return true;
    }

    private static boolean isOutside(int v, int least, int greatest) {
        return v < least || v > greatest;
    }

    private static boolean isFall(int ticks, int size) {
        return !isOutside(ticks, 0, GREATEST_TICKS) && !isOutside(size, 1, GREATEST_SIZE);
    }

    private static boolean isSetting(int what, int v) {
        return !isOutside(what, TILT, SATURATION)
                && !isOutside(v, LEAST_SETTING[what], GREATEST_SETTING[what]);
    }

    private static boolean areFates(int n, int fates) {
        int rest = fates;
        for (int i = 0; i < n; i++) {
            if (isOutside(rest % 10, COUNTED, FAINT)) {
                return false;
            }
            rest = rest / 10;
        }
        return fates >= 0 && rest == 0;
    }

    private static long withoutLastGroups(long script, int groups) {
        long rest = script;
        for (int i = 0; i < groups; i++) {
            rest = rest / SCRIPT_GROUP;
        }
        return rest;
    }

    private static int weightOf(int fate) {
        switch (fate) {
            case COUNTED: return 1000000;
            case MERGED: return 10000;
            case HIDDEN: return 100;
            default: return 1;
        }
    }

    private static int sumOf(int[] row) {
        int sum = 0;
        for (int value : row) {
            sum += value;
        }
        return sum;
    }

    private static void copyRow(int[] from, int[] to) {
        for (int i = 0; i < from.length && i < to.length; i++) {
            to[i] = from[i];
        }
    }

    private static void clearRow(int[] row) {
        for (int i = 0; i < row.length; i++) {
            row[i] = 0;
        }
    }

    private static int wholeRoot(int v) {
        int root = 0;
        for (int step = 64; step > 0; step = step / 2) {
            if ((root + step) * (root + step) <= v) {
                root += step;
            }
        }
        return root;
    }

    private static long cube(int size) {
        return (long) size * size * size;
    }

    /** The last few numbers of a row that only grows. */
    private static final class LastNumbers {
        private final int[] cells;
        private int newest = 0;
        private int length = 0;

        LastNumbers(int capacity) {
            cells = new int[Math.max(capacity, 1)];
        }

        void push(int number) {
            newest = newest < cells.length - 1 ? newest + 1 : 0;
            cells[newest] = number;
            length = Math.min(length + 1, cells.length);
        }

        /** 0 is the latest one; NONE if there are not so many. */
        int back(int i) {
            if (i < 0 || i >= length) {
                return NONE;
            }
            int at = newest - i;
            return cells[at >= 0 ? at : at + cells.length];
        }

        int longestRunOf(int number) {
            int greatest = 0;
            int run = 0;
            for (int i = 0; i < length; i++) {
                run = back(i) == number ? run + 1 : 0;
                greatest = Math.max(greatest, run);
            }
            return greatest;
        }

        int placesOf(int n, int digits) {
            int places = 0;
            for (int latest = 0; latest + n <= length; latest++) {
                if (standsAt(latest, n, digits)) {
                    places++;
                }
            }
            return places;
        }

        // the lowest digit is the latest number, so both are read backwards
        private boolean standsAt(int latest, int n, int digits) {
            int rest = digits;
            for (int i = 0; i < n; i++) {
                if (back(latest + i) != rest % 10) {
                    return false;
                }
                rest = rest / 10;
            }
            return true;
        }

        void copyFrom(LastNumbers other) {
            copyRow(other.cells, cells);
            newest = other.newest;
            length = other.length;
        }
    }

    /** The plate itself: its time, settings, ringing, open pulse and bins. */
    private static final class Plate {
        private int tick = 0;
        private final int[] settings = {0, 3, 4, 20, 3000};
        // the first number is no border, but the lower end of the bin 0
        private final int[] borders = {0, 100, 225, 400, 900, 1600, 2500, 3600};
        private boolean rings = false;
        private int struckAt = 0;
        private int amplitude = 0;
        private boolean open = false;
        private int pulseDrops = 0;
        private boolean saturated = false;
        private final int[] binPulses = new int[LAST_BIN + 1];
        private final int[] binSaturated = new int[LAST_BIN + 1];
        private final int[] binDrops = new int[LAST_BIN + 1];

        int strengthOf(int size) {
            return size * size * (100 - 2 * settings[TILT]) / 100;
        }

        int levelAt(int t) {
            int damping = settings[DAMPING];
            if (!rings || damping < 1) {
                return 0;
            }
            int halvings = (t - struckAt) / damping;
            return isOutside(halvings, 0, HALVINGS_TO_SILENCE) ? 0 : amplitude >> halvings;
        }

        int fateOf(int t, int strength) {
            if (open && t - struckAt < settings[WINDOW]) {
                return MERGED;
            }
            if (strength < settings[NOISE]) {
                return FAINT;
            }
            return levelAt(t) > strength ? HIDDEN : COUNTED;
        }

        int receive(int ticks, int size) {
            tick += ticks;
            int strength = strengthOf(size);
            int fate = fateOf(tick, strength);
            if (fate == MERGED) {
                strike(amplitude + strength);
                pulseDrops++;
                return fate;
            }
            closePulse();
            if (fate == COUNTED) {
                openPulse(strength + levelAt(tick) / 2);
            }
            return fate;
        }

        void letPass(int ticks) {
            tick += ticks;
            if (open && tick - struckAt >= settings[WINDOW]) {
                closePulse();
            }
        }

        private void openPulse(int wanted) {
            rings = true;
            struckAt = tick;
            open = true;
            pulseDrops = 1;
            saturated = false;
            strike(wanted);
        }

        private void strike(int wanted) {
            amplitude = wanted;
            if (amplitude > settings[SATURATION]) {
                amplitude = settings[SATURATION];
                saturated = true;
            }
        }

        void closePulse() {
            if (!open) {
                return;
            }
            int k = binOf(amplitude);
            binPulses[k]++;
            binDrops[k] += pulseDrops;
            if (saturated) {
                binSaturated[k]++;
            }
            open = false;
        }

        private int binOf(int height) {
            for (int k = LAST_BIN; k > 0; k--) {
                if (borders[k] <= height) {
                    return k;
                }
            }
            return 0;
        }

        int lowerEnd(int k) {
            return borders[k];
        }

        int upperEnd(int k) {
            return k < LAST_BIN ? borders[k + 1] - 1 : GREATEST_AMPLITUDE;
        }

        boolean wouldAscend(int k, int v) {
            return borders[k - 1] < v && (k == LAST_BIN || v < borders[k + 1]);
        }

        void emptyBins() {
            clearRow(binPulses);
            clearRow(binSaturated);
            clearRow(binDrops);
        }

        long reckonedRain(int law) {
            long sum = 0;
            for (int k = 0; k <= LAST_BIN; k++) {
                sum += binPulses[k] * cube(wholeRoot(endByLaw(k, law)));
            }
            return sum;
        }

        private int endByLaw(int k, int law) {
            switch (law) {
                case 0: return lowerEnd(k);
                case 1: return (lowerEnd(k) + upperEnd(k)) / 2;
                default: return upperEnd(k);
            }
        }

        void copySetupFrom(Plate other) {
            copyRow(other.settings, settings);
            copyRow(other.borders, borders);
        }

        void copyFrom(Plate other) {
            copySetupFrom(other);
            tick = other.tick;
            rings = other.rings;
            struckAt = other.struckAt;
            amplitude = other.amplitude;
            open = other.open;
            pulseDrops = other.pulseDrops;
            saturated = other.saturated;
            copyRow(other.binPulses, binPulses);
            copyRow(other.binSaturated, binSaturated);
            copyRow(other.binDrops, binDrops);
        }
    }

    /** What is kept of the drops: how many had which fate, the trace and the record. */
    private static final class Accounts {
        private final int[] fateCounts = new int[FAINT + 1];
        private long rainSum = 0;
        private int lastDropTick = 0;
        private final LastNumbers fates = new LastNumbers(TRACE_CAPACITY);
        private final LastNumbers sizes = new LastNumbers(RECORD_CAPACITY);
        private final LastNumbers gaps = new LastNumbers(RECORD_CAPACITY);

        void enter(int tick, int size, int fate) {
            if (fate >= 0 && fate < fateCounts.length) {
                fateCounts[fate]++;
            }
            rainSum += cube(size);
            fates.push(fate);
            sizes.push(size);
            gaps.push(tick - lastDropTick);
            lastDropTick = tick;
        }

        int dropCount() {
            return sumOf(fateCounts);
        }

        int countOf(int fate) {
            return fate >= 0 && fate < fateCounts.length ? fateCounts[fate] : 0;
        }

        long rainOfRecord() {
            long sum = 0;
            for (int i = 0; i < sizes.length; i++) {
                sum += cube(sizes.back(i));
            }
            return sum;
        }

        void copyFrom(Accounts other) {
            copyRow(other.fateCounts, fateCounts);
            rainSum = other.rainSum;
            lastDropTick = other.lastDropTick;
            fates.copyFrom(other.fates);
            sizes.copyFrom(other.sizes);
            gaps.copyFrom(other.gaps);
        }
    }

    /** All that is remembered before an action and kept in a save slot. */
    private static final class State {
        private final Plate plate = new Plate();
        private final Accounts accounts = new Accounts();

        int letFall(int ticks, int size) {
            int fate = plate.receive(ticks, size);
            accounts.enter(plate.tick, size, fate);
            return fate;
        }

        void copyFrom(State other) {
            plate.copyFrom(other.plate);
            accounts.copyFrom(other.accounts);
        }
    }

    /** The text buffer, and how it is read as a storm. */
    private static final class Text {
        private final int[] signs = new int[TEXT_CAPACITY];
        private int length = 0;

        boolean isFull() {
            return length >= signs.length;
        }

        int add(int sign) {
            if (!isFull()) {
                signs[length] = sign;
                length++;
            }
            return length;
        }

        int wipe() {
            int previous = length;
            length = 0;
            return previous;
        }

        /** NONE, which is no character, behind the end. */
        int signAt(int i) {
            return i >= 0 && i < length ? signs[i] : NONE;
        }

        int digitAt(int i) {
            return signAt(i) - '0';
        }

        int numberAt(int i) {
            return digitAt(i) * 10 + digitAt(i + 1);
        }

        int firstError() {
            if (signAt(0) != 'P') {
                return 0;
            }
            int at = 1;
            for (int part = 0; part < TEXT_CAPACITY && at < length; part++) {
                int error = errorInPart(at);
                if (error != NONE) {
                    return error;
                }
                at += partLength(at);
            }
            return NONE;
        }

        int partLength(int at) {
            switch (signAt(at)) {
                case 'd': return 5;
                case 'g': return 2;
                default: return 3;
            }
        }

        private int errorInPart(int at) {
            switch (signAt(at)) {
                case 'd': return errorInDrop(at + 1);
                case 'p': return errorInNumber(at + 1, 2, 1, GREATEST_TICKS);
                case 't': return errorInSetting(at + 1, 2, TILT);
                case 'w': return errorInSetting(at + 1, 2, WINDOW);
                case 'g': return errorInSetting(at + 1, 1, DAMPING);
                default: return at;
            }
        }

        private int errorInDrop(int at) {
            int error = errorInNumber(at, 2, 0, GREATEST_TICKS);
            return error != NONE ? error : errorInNumber(at + 2, 2, 1, GREATEST_SIZE);
        }

        private int errorInSetting(int at, int digits, int what) {
            return errorInNumber(at, digits, LEAST_SETTING[what], GREATEST_SETTING[what]);
        }

        /** Behind the end there is no digit either, so a text that ends too soon errs at its length. */
        private int errorInNumber(int at, int digits, int least, int greatest) {
            int first = 0;
            for (int i = 0; i < digits; i++) {
                int digit = digitAt(at + i);
                if (isOutside(digit, 0, 9)) {
                    return at + i;
                }
                // the numbers that begin with the digits so far are first to first + span - 1
                int span = i + 1 < digits ? 10 : 1;
                first += digit * span;
                if (first > greatest || first + span - 1 < least) {
                    return at + i;
                }
            }
            return NONE;
        }
    }
}
