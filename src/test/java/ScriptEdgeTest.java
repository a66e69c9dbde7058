/** Promises 26 and 27, runScript and simulate: each boundary with a test of its own. */
public final class ScriptEdgeTest {
    public static void main(String[] args) {
        zerosBeforeFewerDigits();
        firstThatFails();
        dropCommand();
        passCommand();
        settingCommand();
        fateCommand();
        binCommand();
        binCommandUpTo999();
        levelCommand();
        latestFateCommand();
        openCommand();
        otherGroups();
        commandsWorkOnTheCopy();
        lessThanASecondGroup();
        simulateRounds();
        simulateTilts();
        simulateEachFate();
        simulateChangesNothing();
        Check.finish();
    }

    private static void due(ImpactPlate x, int n, long script, int want) {
        Check.due("runScript(" + n + ", " + script + ")", x.runScript(n, script), want);
    }

    private static void dueOne(ImpactPlate x, int group, boolean succeeds) {
        due(x, 1, group, succeeds ? -9 : 0);
    }

    // (with zeros before it, if it has fewer digits)
    private static void zerosBeforeFewerDigits() {
        ImpactPlate x = new ImpactPlate();
        due(x, 2, 10530, 0);
        due(x, 3, 10530_20005L, 0);
        due(x, 3, 10530, 0);
        due(x, 1, 10530, -9);
        due(x, 2, 10530_20005L, -9);
        due(x, 1, 5, 0);
    }

    // Returns the index, from 0, of the first command that fails; NONE if all succeed.
    private static void firstThatFails() {
        ImpactPlate x = new ImpactPlate();
        due(x, 3, 20001_20001_20001L, -9);
        due(x, 3, 20001_20001_20000L, 2);
        due(x, 3, 20001_20000_20001L, 1);
        due(x, 3, 20001_20000_20000L, 1);
        due(x, 3, 20000_20001_20001L, 0);
        due(x, 3, 20000_20000_20000L, 0);
        due(x, 2, 20001_20001L, -9);
        due(x, 2, 20001_20000L, 1);
        due(x, 2, 20000_20001L, 0);
        due(x, 1, 20001, -9);
        due(x, 1, 20000, 0);
    }

    // 1 t t s s: drop(tt, ss).
    private static void dropCommand() {
        ImpactPlate x = new ImpactPlate();
        for (int size = 0; size <= 99; size++) {
            dueOne(x, 10000 + size, size >= 1 && size <= 60);
            dueOne(x, 19900 + size, size >= 1 && size <= 60);
        }
        for (int ticks = 0; ticks <= 99; ticks++) {
            dueOne(x, 10030 + 100 * ticks, true);
        }
        ImpactPlate y = Plates.keen(3, 4);
        due(y, 2, 10001_60001L, -9);
        due(y, 2, 10001_60002L, 1);
        due(y, 2, 10060_63600L, -9);
        due(y, 2, 10060_63601L, 1);
        due(y, 3, 10030_10201_70001L, -9);
        due(y, 3, 10030_10301_70001L, 2);
    }

    // 2 0 0 t t: pass(tt).
    private static void passCommand() {
        ImpactPlate x = new ImpactPlate();
        for (int ticks = 0; ticks <= 99; ticks++) {
            dueOne(x, 20000 + ticks, ticks >= 1);
        }
        for (int digit = 1; digit <= 9; digit++) {
            dueOne(x, 20005 + 1000 * digit, false);
            dueOne(x, 20005 + 100 * digit, false);
        }
        ImpactPlate y = new ImpactPlate();
        y.drop(0, 30);
        due(y, 2, 20002_80001L, -9);
        due(y, 2, 20003_80001L, 1);
        due(y, 2, 20003_60900L, -9);
        due(y, 2, 20004_60900L, 1);
    }

    // 3 w x y z: the setting w becomes xyz.
    private static void settingCommand() {
        ImpactPlate x = new ImpactPlate();
        int[] least = {0, 0, 1, 1, 500};
        int[] greatest = {40, 20, 9, 200, 999};
        for (int w = 0; w <= 4; w++) {
            for (int v : new int[] {0, least[w] - 1, least[w], greatest[w], greatest[w] + 1, 999}) {
                if (v >= 0 && v <= 999) {
                    dueOne(x, 30000 + 1000 * w + v, v >= least[w] && v <= greatest[w]);
                }
            }
        }
        for (int w = 5; w <= 9; w++) {
            for (int v : new int[] {0, 1, 5, 600, 999}) {
                dueOne(x, 30000 + 1000 * w + v, false);
            }
        }
        due(x, 3, 34999_10060_60999L, -9);
        due(x, 3, 34999_10060_61000L, 2);
        due(x, 3, 33200_10014_70003L, -9);
        due(x, 3, 33200_10015_70000L, -9);
    }

    // 4 f 0 x y: succeeds if at least xy drops so far had the fate f.
    private static void fateCommand() {
        ImpactPlate x = Plates.sevenDrops();
        int[] counts = {2, 3, 1, 1};
        for (int f = 0; f <= 9; f++) {
            for (int xy = 0; xy <= 4; xy++) {
                dueOne(x, 40000 + 1000 * f + xy, f <= 3 && counts[f] >= xy);
            }
            for (int third = 1; third <= 9; third++) {
                dueOne(x, 40000 + 1000 * f + 100 * third, false);
            }
        }
        ImpactPlate y = new ImpactPlate();
        for (int i = 0; i < 99; i++) {
            Check.due("runScript(1, 43099) with " + i + " faint drops", y.runScript(1, 43099), 0);
            y.drop(0, 1);
        }
        dueOne(y, 43099, true);
        for (int i = 0; i < 20; i++) {
            y.drop(0, 1);
        }
        dueOne(y, 43099, true);
    }

    // 5 k x y z: succeeds if at least xyz closed pulses are in the bin k.
    private static void binCommand() {
        ImpactPlate x = Plates.sevenDrops();
        for (int k = 0; k <= 9; k++) {
            for (int xyz : new int[] {0, 1, 2, 10, 100, 999}) {
                dueOne(x, 50000 + 1000 * k + xyz, k <= 7 && (k == 6 ? 1 : 0) >= xyz);
            }
        }
        due(x, 2, 20001_56002L, -9);
        due(x, 2, 20001_56003L, 1);
    }

    private static void binCommandUpTo999() {
        ImpactPlate x = Plates.keen(0, 1);
        for (int i = 1; i <= 101; i++) {
            x.drop(20, 30);
        }
        dueOne(x, 54100, true);
        dueOne(x, 54101, false);
        x.pass(1);
        dueOne(x, 54101, true);
        dueOne(x, 54102, false);
    }

    // 6 x x x x: succeeds if the level is at least xxxx.
    private static void levelCommand() {
        ImpactPlate x = new ImpactPlate();
        dueOne(x, 60000, true);
        dueOne(x, 60001, false);
        dueOne(x, 69999, false);
        ImpactPlate y = Plates.struck(5000, 4);
        dueOne(y, 65000, true);
        dueOne(y, 65001, false);
        y.pass(4);
        dueOne(y, 62500, true);
        dueOne(y, 62501, false);
        y.pass(20);
        dueOne(y, 60078, true);
        dueOne(y, 60079, false);
    }

    // 7 0 0 0 f: succeeds if the latest drop of the trace had the fate f.
    private static void latestFateCommand() {
        int[][] drops = {{5, 50, 0}, {2, 1, 1}, {1, 49, 2}, {0, 4, 3}};
        ImpactPlate x = new ImpactPlate();
        for (int f = 0; f <= 9; f++) {
            dueOne(x, 70000 + f, false);
        }
        for (int[] drop : drops) {
            x.drop(drop[0], drop[1]);
            for (int f = 0; f <= 9; f++) {
                dueOne(x, 70000 + f, f == drop[2]);
            }
            for (int group : new int[] {70010, 70100, 71000, 79000}) {
                dueOne(x, group + drop[2], false);
            }
        }
        x.empty();
        x.pass(9);
        dueOne(x, 70003, true);
    }

    // 8 0 0 0 m: succeeds if a pulse is open (m is 1), or none (0).
    private static void openCommand() {
        ImpactPlate x = new ImpactPlate();
        for (int round = 0; round < 2; round++) {
            for (int m = 0; m <= 9; m++) {
                dueOne(x, 80000 + m, m == round);
            }
            for (int group : new int[] {80010, 80100, 81000, 89000}) {
                dueOne(x, group + round, false);
            }
            x.drop(0, 30);
        }
        x.set(1, 0);
        dueOne(x, 80001, true);
        due(x, 2, 20001_80000L, -9);
    }

    // and so does any other group
    private static void otherGroups() {
        ImpactPlate x = Plates.sevenDrops();
        for (int last : new int[] {0, 1, 530, 1000, 9999}) {
            dueOne(x, last, false);
            dueOne(x, 90000 + last, false);
        }
    }

    private static void commandsWorkOnTheCopy() {
        ImpactPlate x = new ImpactPlate();
        due(x, 3, 10030_10201_41001L, -9);
        due(x, 3, 10030_10201_41002L, 2);
        due(x, 3, 10030_20003_54001L, -9);
        due(x, 3, 10030_20002_54001L, 2);
        due(x, 3, 10030_31000_80001L, -9);
        Check.due("about(1)", x.about(1), 0);
        Check.due("all there is", Look.at(x), Look.at(new ImpactPlate()));
        Check.dueThrow("undo(): a script is no action", IllegalStateException.class, x::undo);
    }

    // a group with 0 as its first digit is no command, whatever the later ones are
    private static void lessThanASecondGroup() {
        ImpactPlate x = new ImpactPlate();
        due(x, 2, 99999, 0);
        due(x, 2, 100000, 0);
        due(x, 3, 9999999999L, 0);
        due(x, 3, 10000000000L, 0);
        due(x, 2, 20001_00000L, 1);
    }

    private static final long FACTOR = 6364136223846793005L;
    private static final long SUMMAND = 1442695040888963407L;

    private static int rOf(long x) {
        return (int) (x >>> 33);
    }

    private static int simulated(ImpactPlate plate, long seed, int m) {
        long x = seed;
        int[] before = {plate.about(2), plate.about(3), plate.about(4), plate.about(5)};
        for (int round = 0; round < m; round++) {
            x = x * FACTOR + SUMMAND;
            int r = rOf(x);
            if (r % 16 == 0) {
                plate.set(0, r / 16 % 41);
            } else {
                plate.drop(r / 1024 % 12, 1 + r / 16 % 60);
            }
        }
        return 1000000 * (plate.about(2) - before[0]) + 10000 * (plate.about(3) - before[1])
                + 100 * (plate.about(4) - before[2]) + plate.about(5) - before[3];
    }

    /** The seed whose first round makes this x of it: the factor's inverse undoes the round. */
    private static long seedBefore(long x) {
        long inverse = 1;
        for (int i = 0; i < 6; i++) {
            inverse *= 2 - FACTOR * inverse;
        }
        return (x - SUMMAND) * inverse;
    }

    private static long seedOfR(int r) {
        return seedBefore((long) r << 33 | 12345);
    }

    /** A seed whose first round lets this drop fall. */
    private static long seedOfDrop(int ticks, int size) {
        int r = 1;
        while (r / 1024 % 12 != ticks || r / 16 % 60 != size - 1) {
            r += 16;
        }
        return seedOfR(r);
    }

    /** A seed whose first round tilts the plate by this, and whose second lets a drop of this size fall. */
    private static long seedOfTiltAndDrop(int tilt, int size) {
        long x = (long) (16 * tilt) << 33;
        while (rOf(x * FACTOR + SUMMAND) % 16 == 0 || rOf(x * FACTOR + SUMMAND) / 16 % 60 != size - 1) {
            x++;
        }
        return seedBefore(x);
    }

    // 1 to 99 rounds
    private static void simulateRounds() {
        for (int m = 1; m <= 99; m++) {
            ImpactPlate x = Plates.sevenDrops();
            Check.due("simulate(77, " + m + ")", Plates.sevenDrops().simulate(77, m), simulated(x, 77, m));
        }
        for (long seed : new long[] {0, -1, Long.MIN_VALUE, Long.MAX_VALUE}) {
            Check.due("simulate(" + seed + ", 99)", new ImpactPlate().simulate(seed, 99),
                    simulated(new ImpactPlate(), seed, 99));
        }
    }

    // If r % 16 is 0, the tilt becomes r / 16 % 41; otherwise a drop .. falls
    private static void simulateTilts() {
        ImpactPlate x = new ImpactPlate();
        for (int r : new int[] {0, 16, 640, 656, Integer.MAX_VALUE - 15}) {
            Check.due("no drop falls when r is " + r, x.simulate(seedOfR(r), 1), 0);
        }
        for (int rest = 1; rest <= 15; rest++) {
            Check.due("a drop of 21 falls when r is 320 + " + rest, x.simulate(seedOfR(320 + rest), 1), 1000000);
        }
        Check.due("a drop of 9 with the tilt 37: 21", x.simulate(seedOfTiltAndDrop(37, 9), 2), 1000000);
        Check.due("a drop of 9 with the tilt 38: 19", x.simulate(seedOfTiltAndDrop(38, 9), 2), 1);
        Check.due("a drop of 9 with the tilt 40", x.simulate(seedOfTiltAndDrop(40, 9), 2), 1);
        Check.due("a drop of 9 when 41 becomes the tilt 0", x.simulate(seedOfTiltAndDrop(41, 9), 2), 1000000);
        x.set(0, 40);
        Check.due("a drop of 9 when the tilt becomes 0", x.simulate(seedOfTiltAndDrop(0, 9), 2), 1000000);
        Check.due("a drop of 10 with the tilt 40: 20", x.simulate(seedOfTiltAndDrop(40, 10), 2), 1000000);
    }

    // a drop of the size 1 + r / 16 % 60 falls, r / 1024 % 12 ticks later; 1000000 * (counted) + 10000 * (merged)
    // + 100 * (hidden) + (faint)
    private static void simulateEachFate() {
        ImpactPlate x = new ImpactPlate();
        Check.due("a drop of 1 is faint", x.simulate(seedOfDrop(0, 1), 1), 1);
        Check.due("a drop of 4 is faint", x.simulate(seedOfDrop(11, 4), 1), 1);
        Check.due("a drop of 5 is counted", x.simulate(seedOfDrop(11, 5), 1), 1000000);
        Check.due("a drop of 60 is counted", x.simulate(seedOfDrop(0, 60), 1), 1000000);
        x.drop(0, 60);
        Check.due("a drop at once is merged", x.simulate(seedOfDrop(0, 1), 1), 10000);
        Check.due("a drop 2 ticks later is merged", x.simulate(seedOfDrop(2, 60), 1), 10000);
        Check.due("a drop 3 ticks later is hidden", x.simulate(seedOfDrop(3, 54), 1), 100);
        Check.due("a drop 3 ticks later is counted", x.simulate(seedOfDrop(3, 55), 1), 1000000);
        Check.due("a drop 11 ticks later is hidden at 750", x.simulate(seedOfDrop(11, 27), 1), 100);
        Check.due("a drop 11 ticks later is counted at 750", x.simulate(seedOfDrop(11, 28), 1), 1000000);
        Check.due("the drop before these rounds is not told", x.about(2), 1);
        Check.due("12 ticks are none", x.simulate(seedOfR(12288 + 1), 1), 10000);
    }

    private static void simulateChangesNothing() {
        ImpactPlate x = Plates.sevenDrops();
        int first = x.simulate(5, 99);
        Check.due("simulate(5, 99) again", x.simulate(5, 99), first);
        Check.due("all there is", Look.at(x), Look.at(Plates.sevenDrops()));
        Check.due("undo(): a simulation is no action", x.undo(), 6);
    }
}
