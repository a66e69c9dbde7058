import java.util.ArrayDeque;
import java.util.ArrayList;
import java.util.Deque;
import java.util.List;
import java.util.regex.Matcher;
import java.util.regex.Pattern;

/**
 * The document told a second time, as slowly and plainly as can be: nothing is forgotten, ticks go by one by one,
 * and a copy is made by letting everything happen again. Answers are what the call gives, or the exception's name.
 */
final class Model {
    private static final Pattern STORM = Pattern.compile("P(d[0-9]{2}(0[1-9]|[1-5][0-9]|60)|p(0[1-9]|[1-9][0-9])"
            + "|t([0-3][0-9]|40)|w([01][0-9]|20)|g[1-9])*");
    private static final int[][] RANGES = {{0, 40}, {0, 20}, {1, 9}, {1, 200}, {500, 5000}};

    private interface Event {
        void happen(World w);
    }

    private static final class Pulse {
        int began;
        int amplitude;
        int drops;
        boolean saturated;
    }

    private static final class Closed {
        int bin;
        int drops;
        boolean saturated;
    }

    /** One course of events. */
    private static final class World {
        int tick = 0;
        int[] settings = {0, 3, 4, 20, 3000};
        int[] borders = {0, 100, 225, 400, 900, 1600, 2500, 3600};
        Pulse last = null;
        boolean open = false;
        List<Closed> closed = new ArrayList<>();
        List<int[]> drops = new ArrayList<>();

        int level(int t) {
            if (last == null) {
                return 0;
            }
            int level = last.amplitude;
            for (int u = last.began + settings[2]; u <= t; u += settings[2]) {
                level = level / 2;
            }
            return level;
        }

        void close() {
            Closed c = new Closed();
            while (c.bin < 7 && borders[c.bin + 1] <= last.amplitude) {
                c.bin++;
            }
            c.drops = last.drops;
            c.saturated = last.saturated;
            closed.add(c);
            open = false;
        }

        void goBy(int ticks) {
            for (int i = 0; i < ticks; i++) {
                tick++;
                if (open && tick - last.began >= settings[1]) {
                    close();
                }
            }
        }

        int fall(int ticks, int size) {
            goBy(ticks);
            int a = size * size * (100 - 2 * settings[0]) / 100;
            int fate = fateNow(a);
            if (fate == 0) {
                Pulse p = new Pulse();
                p.began = tick;
                p.amplitude = a + level(tick) / 2;
                p.drops = 1;
                last = p;
                open = true;
                cutOff();
            }
            drops.add(new int[] {tick, size, fate});
            return fate;
        }

        int fateNow(int a) {
            if (open && tick - last.began < settings[1]) {
                last.amplitude += a;
                last.drops++;
                cutOff();
                return 1;
            }
            if (open) {
                close();
            }
            return a < settings[3] ? 3 : level(tick) > a ? 2 : 0;
        }

        void cutOff() {
            if (last.amplitude > settings[4]) {
                last.amplitude = settings[4];
                last.saturated = true;
            }
        }

        int count(int fate) {
            int n = 0;
            for (int[] d : drops) {
                n += d[2] == fate ? 1 : 0;
            }
            return n;
        }

        int inBin(int k, int what) {
            int n = 0;
            for (Closed c : closed) {
                if (c.bin == k) {
                    n += what == 2 ? 1 : what == 4 ? c.drops : c.saturated ? 1 : 0;
                }
            }
            return n;
        }

        int end(int k, boolean upper) {
            return !upper ? borders[k] : k == 7 ? 5000 : borders[k + 1] - 1;
        }

        long rain(int law) {
            long sum = 0;
            for (Closed c : closed) {
                int low = end(c.bin, false);
                int high = end(c.bin, true);
                long s = (long) Math.floor(Math.sqrt(law == 0 ? low : law == 2 ? high : (low + high) / 2));
                sum += s * s * s;
            }
            return sum;
        }

        String trace() {
            StringBuilder row = new StringBuilder();
            for (int i = Math.max(0, drops.size() - 60); i < drops.size(); i++) {
                row.append(drops.get(i)[2]);
            }
            return row.toString();
        }
    }

    private final StringBuilder text = new StringBuilder();
    private List<Event> past = new ArrayList<>();
    private final Deque<List<Event>> remembered = new ArrayDeque<>();
    private final List<List<Event>> slots = new ArrayList<>();
    private World world = new World();

    Model() {
        slots.add(null);
        slots.add(null);
    }

    private static World worldOf(List<Event> events) {
        World w = new World();
        for (Event e : events) {
            e.happen(w);
        }
        return w;
    }

    private World copy() {
        return worldOf(past);
    }

    private void act(Event e) {
        remembered.addLast(new ArrayList<>(past));
        if (remembered.size() > 14) {
            remembered.removeFirst();
        }
        past.add(e);
        e.happen(world);
    }

    private static boolean in(long v, long least, long greatest) {
        return least <= v && v <= greatest;
    }

    private static void demand(boolean holds) {
        if (!holds) {
            throw new IllegalArgumentException();
        }
    }

    private static void demandPlace(boolean holds) {
        if (!holds) {
            throw new IndexOutOfBoundsException();
        }
    }

    private static void demandState(boolean holds) {
        if (!holds) {
            throw new IllegalStateException();
        }
    }

    int append(int c) {
        demand(in(c, 0, 255));
        demandState(text.length() < 100);
        text.append((char) c);
        return text.length();
    }

    int clearText() {
        int length = text.length();
        text.setLength(0);
        return length;
    }

    int errorPosition() {
        for (int length = 1; length <= text.length(); length++) {
            Matcher m = STORM.matcher(text.substring(0, length));
            if (!m.matches() && !m.hitEnd()) {
                return length - 1;
            }
        }
        return STORM.matcher(text).matches() ? -9 : text.length();
    }

    int load() {
        demandState(errorPosition() == -9);
        past = new ArrayList<>();
        world = new World();
        slots.set(0, null);
        slots.set(1, null);
        Matcher m = Pattern.compile("([dptwg])([0-9]+)").matcher(text);
        while (m.find()) {
            int v = Integer.parseInt(m.group(2));
            switch (m.group(1).charAt(0)) {
                case 'd': act(w -> w.fall(v / 100, v % 100)); break;
                case 'p': act(w -> w.goBy(v)); break;
                case 't': act(w -> w.settings[0] = v); break;
                case 'w': act(w -> w.settings[1] = v); break;
                default: act(w -> w.settings[2] = v); break;
            }
        }
        remembered.clear();
        return world.drops.size();
    }

    int about(int what) {
        demand(in(what, 0, 11));
        int n = world.drops.size();
        if (in(what, 2, 5)) {
            return world.count(what - 2);
        }
        int saturated = 0;
        for (Closed c : world.closed) {
            saturated += c.saturated ? 1 : 0;
        }
        int[] other = {world.tick, n, 0, 0, 0, 0, world.closed.size(), saturated, world.level(world.tick),
            Math.min(n, 40), Math.min(n, 60), world.open ? 1 : 0};
        return other[what];
    }

    int setting(int what) {
        demand(in(what, 0, 4));
        return world.settings[what];
    }

    int bin(int k, int what) {
        demandPlace(in(k, 0, 7));
        demand(in(what, 0, 4));
        return what < 2 ? world.end(k, what == 1) : world.inBin(k, what);
    }

    int pulse(int what) {
        demand(in(what, 0, 3));
        if (!world.open) {
            return -9;
        }
        Pulse p = world.last;
        return new int[] {world.tick - p.began, p.amplitude, p.drops, p.saturated ? 1 : 0}[what];
    }

    int fate(int i) {
        demand(i >= 0);
        String trace = world.trace();
        return i < trace.length() ? trace.charAt(trace.length() - 1 - i) - '0' : -9;
    }

    int longest(int fate) {
        demand(in(fate, 0, 3));
        String run = "";
        while (world.trace().contains(run + fate)) {
            run = run + fate;
        }
        return run.length();
    }

    int pattern(int n, int fates) {
        demand(in(n, 1, 8));
        demand(fates >= 0);
        String digits = Integer.toString(fates);
        demand(digits.length() <= n && digits.matches("[0-3]*"));
        String row = "0".repeat(n - digits.length()) + digits;
        String trace = world.trace();
        int places = 0;
        for (int i = 0; i < trace.length(); i++) {
            places += trace.startsWith(row, i) ? 1 : 0;
        }
        return places;
    }

    long rain(int law) {
        demand(in(law, 0, 2));
        return world.rain(law);
    }

    long trueRain() {
        long sum = 0;
        for (int[] d : world.drops) {
            sum += (long) d[1] * d[1] * d[1];
        }
        return sum;
    }

    int drop(int ticks, int size) {
        demand(in(ticks, 0, 99) && in(size, 1, 60));
        act(w -> w.fall(ticks, size));
        return fate(0);
    }

    int pass(int ticks) {
        demand(in(ticks, 1, 99));
        act(w -> w.goBy(ticks));
        return about(8);
    }

    int set(int what, int v) {
        demand(in(what, 0, 4));
        demand(in(v, RANGES[what][0], RANGES[what][1]));
        int previous = world.settings[what];
        act(w -> w.settings[what] = v);
        return previous;
    }

    int setBorder(int k, int v) {
        demandPlace(in(k, 1, 7));
        demand(in(v, 1, 5000));
        int[] changed = world.borders.clone();
        changed[k] = v;
        for (int i = 2; i <= 7; i++) {
            demandState(changed[i] > changed[i - 1]);
        }
        int previous = world.borders[k];
        act(w -> w.borders[k] = v);
        return previous;
    }

    int empty() {
        int pulses = world.closed.size();
        act(w -> w.closed.clear());
        return pulses;
    }

    int undo() {
        demandState(!remembered.isEmpty());
        past = remembered.removeLast();
        world = copy();
        return remembered.size();
    }

    int wouldBe(int ticks, int size) {
        demand(in(ticks, 0, 99) && in(size, 1, 60));
        return copy().fall(ticks, size);
    }

    int leastSize(int ticks) {
        demand(in(ticks, 0, 99));
        for (int size = 1; size <= 60; size++) {
            if (wouldBe(ticks, size) == 0) {
                return size;
            }
        }
        return -9;
    }

    int quietIn(int level) {
        demand(in(level, 0, 5000));
        World w = copy();
        int ticks = 0;
        while (w.level(w.tick) > level) {
            w.goBy(1);
            ticks++;
        }
        return ticks;
    }

    private World replayed(int window, int damping) {
        World w = new World();
        w.settings = world.settings.clone();
        w.settings[1] = window;
        w.settings[2] = damping;
        w.borders = world.borders.clone();
        int n = world.drops.size();
        for (int i = Math.max(0, n - 40); i < n; i++) {
            w.fall(world.drops.get(i)[0] - (i == 0 ? 0 : world.drops.get(i - 1)[0]), world.drops.get(i)[1]);
        }
        return w;
    }

    int replay(int window, int damping, int what) {
        demand(in(window, 0, 20) && in(damping, 1, 9) && in(what, 0, 3));
        return replayed(window, damping).count(what);
    }

    int bestWindow(int law) {
        demand(in(law, 0, 2));
        long[] errors = new long[21];
        int best = 0;
        for (int window = 0; window <= 20; window++) {
            World w = replayed(window, world.settings[2]);
            if (w.open) {
                w.close();
            }
            long due = 0;
            for (int[] d : w.drops) {
                due += (long) d[1] * d[1] * d[1];
            }
            errors[window] = Math.abs(due - w.rain(law));
            best = errors[window] < errors[best] ? window : best;
        }
        return best;
    }

    int runScript(int n, long script) {
        demand(in(n, 1, 3));
        demand(script >= 0);
        String digits = Long.toString(script);
        demand(digits.length() <= 5 * n);
        digits = "0".repeat(5 * n - digits.length()) + digits;
        World w = copy();
        for (int i = 0; i < n; i++) {
            if (!succeeds(w, digits.substring(5 * i, 5 * i + 5))) {
                return i;
            }
        }
        return -9;
    }

    private static boolean succeeds(World w, String g) {
        int second = g.charAt(1) - '0';
        int two = Integer.parseInt(g.substring(3));
        int three = Integer.parseInt(g.substring(2));
        int four = Integer.parseInt(g.substring(1));
        if (g.matches("1..(0[1-9]|[1-5].|60)")) {
            w.fall(four / 100, two);
            return true;
        }
        if (g.matches("200..") && two > 0) {
            w.goBy(two);
            return true;
        }
        if (g.matches("3[0-4]...") && in(three, RANGES[second][0], RANGES[second][1])) {
            w.settings[second] = three;
            return true;
        }
        String trace = w.trace();
        return g.matches("4[0-3]0..") && w.count(second) >= two
                || g.matches("5[0-7]...") && w.inBin(second, 2) >= three
                || g.startsWith("6") && w.level(w.tick) >= four
                || g.matches("7000[0-3]") && trace.endsWith(g.substring(4))
                || g.equals("80001") && w.open
                || g.equals("80000") && !w.open;
    }

    int simulate(long seed, int m) {
        demand(in(m, 1, 99));
        World w = copy();
        int result = 0;
        long x = seed;
        for (int i = 0; i < m; i++) {
            x = x * 6364136223846793005L + 1442695040888963407L;
            int r = (int) (x >>> 33);
            if (r % 16 == 0) {
                w.settings[0] = r / 16 % 41;
            } else {
                result += new int[] {1000000, 10000, 100, 1}[w.fall(r / 1024 % 12, 1 + r / 16 % 60)];
            }
        }
        return result;
    }

    int save(int slot) {
        demandPlace(in(slot, 0, 1));
        slots.set(slot, new ArrayList<>(past));
        return world.tick;
    }

    int restore(int slot) {
        demandPlace(in(slot, 0, 1));
        demandState(slots.get(slot) != null);
        past = new ArrayList<>(slots.get(slot));
        world = copy();
        remembered.clear();
        return world.tick;
    }
}
