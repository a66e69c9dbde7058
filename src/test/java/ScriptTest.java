/** Promises 26 and 27: runScript, simulate. */
public final class ScriptTest {
    public static void main(String[] args) {
        scriptRange();
        drops();
        passes();
        settings();
        conditions();
        otherGroups();
        scriptOrder();
        scriptsChangeNothing();
        simulate();
        simulateRounds();
        Check.finish();
    }

    private static void due(ImpactPlate x, int n, long script, int want) {
        Check.due("runScript(" + n + ", " + script + ")", x.runScript(n, script), want);
    }

    private static void scriptRange() {
        ImpactPlate x = new ImpactPlate();
        long[][] wrong = {{0, 0}, {0, 10010}, {4, 10010}, {-1, 0}, {Integer.MIN_VALUE, 0}, {Integer.MAX_VALUE, 0}, {1, -1},
            {1, 100000}, {2, 10000000000L}, {3, 1000000000000000L}, {3, Long.MAX_VALUE}, {1, Long.MIN_VALUE},
            {1, -10010}, {0, -1}};
        for (long[] row : wrong) {
            Check.dueThrow("runScript(" + row[0] + ", " + row[1] + ")", IllegalArgumentException.class,
                    () -> x.runScript((int) row[0], row[1]));
        }
        due(x, 1, 99999, 0);
        due(x, 2, 9999999999L, 0);
        due(x, 3, 999999999999999L, 0);
        due(x, 1, 0, 0);
        due(x, 3, 0, 0);
    }

    private static void drops() {
        ImpactPlate x = new ImpactPlate();
        due(x, 1, 10001, -9);
        due(x, 1, 19960, -9);
        due(x, 1, 10000, 0);
        due(x, 1, 10061, 0);
        due(x, 1, 19999, 0);
        due(x, 2, 10510_50001L, 1);
        due(x, 3, 10510_10420_51001L, -9);
        due(x, 3, 10510_10420_51002L, 2);
        due(x, 2, 10560_63000L, -9);
        due(x, 2, 10560_63001L, 1);
        x.drop(0, 30);
        due(x, 2, 10201_70001L, -9);
        due(x, 2, 10301_70003L, -9);
        due(x, 2, 10704_60450L, -9);
        due(x, 2, 10704_60451L, 1);
        due(x, 2, 10804_60225L, -9);
        due(x, 2, 10804_60226L, 1);
    }

    private static void passes() {
        ImpactPlate x = new ImpactPlate();
        due(x, 1, 20001, -9);
        due(x, 1, 20099, -9);
        due(x, 1, 20000, 0);
        due(x, 1, 20100, 0);
        due(x, 1, 20101, 0);
        due(x, 1, 21001, 0);
        x.drop(0, 30);
        due(x, 2, 20002_80001L, -9);
        due(x, 2, 20003_80001L, 1);
        due(x, 2, 20003_80000L, -9);
        due(x, 2, 20004_60450L, -9);
        due(x, 2, 20004_60451L, 1);
    }

    private static void settings() {
        ImpactPlate x = new ImpactPlate();
        int[] least = {0, 0, 1, 1, 500};
        int[] greatest = {40, 20, 9, 200, 999};
        for (int w = 0; w <= 4; w++) {
            due(x, 1, 30000 + 1000 * w + least[w], -9);
            due(x, 1, 30000 + 1000 * w + greatest[w], -9);
            if (least[w] > 0) {
                due(x, 1, 30000 + 1000 * w + least[w] - 1, 0);
            }
            if (w < 4) {
                due(x, 1, 30000 + 1000 * w + greatest[w] + 1, 0);
            }
        }
        due(x, 1, 35000, 0);
        due(x, 1, 35005, 0);
        due(x, 1, 39005, 0);
        due(x, 3, 34500_10060_60500L, -9);
        due(x, 3, 34500_10060_60501L, 2);
        due(x, 3, 30040_10050_60500L, -9);
        due(x, 3, 30040_10050_60501L, 2);
        due(x, 3, 33026_10005_70003L, -9);
        due(x, 3, 32001_10060_60001L, -9);
        x.drop(0, 30);
        due(x, 2, 31000_80001L, -9);
        due(x, 3, 31000_20001_80000L, -9);
        due(x, 3, 32001_20003_60112L, -9);
        due(x, 3, 32001_20003_60113L, 2);
    }

    private static void conditions() {
        ImpactPlate x = new ImpactPlate();
        due(x, 1, 70000, 0);
        due(x, 1, 60000, -9);
        due(x, 1, 60001, 0);
        due(x, 1, 80000, -9);
        due(x, 1, 80001, 0);
        x.drop(5, 50);
        x.drop(2, 2);
        x.drop(1, 3);
        x.drop(0, 49);
        x.drop(1, 40);
        x.drop(0, 40);
        x.drop(2, 60);
        int[] counts = {2, 3, 1, 1};
        for (int f = 0; f <= 3; f++) {
            due(x, 1, 40000 + 1000 * f, -9);
            due(x, 1, 40000 + 1000 * f + counts[f], -9);
            due(x, 1, 40000 + 1000 * f + counts[f] + 1, 0);
            due(x, 1, 40100 + 1000 * f, 0);
            due(x, 1, 70000 + f, f == 1 ? -9 : 0);
        }
        for (int k = 0; k <= 7; k++) {
            due(x, 1, 50000 + 1000 * k, -9);
            due(x, 1, 50001 + 1000 * k, k == 6 ? -9 : 0);
            due(x, 1, 50002 + 1000 * k, 0);
            due(x, 1, 50101 + 1000 * k, 0);
        }
        due(x, 1, 63000, -9);
        due(x, 1, 63001, 0);
        due(x, 1, 80001, -9);
        due(x, 1, 80000, 0);
        int[] none = {44000, 49000, 58000, 59000, 70004, 70009, 70011, 70101, 71001, 80002, 80011, 80101, 81001};
        for (int group : none) {
            due(x, 1, group, 0);
        }
    }

    private static void otherGroups() {
        ImpactPlate x = new ImpactPlate();
        x.drop(0, 30);
        for (int group : new int[] {0, 1, 5, 9999, 90000, 90001, 99999, 90960}) {
            due(x, 1, group, 0);
        }
        // a fate that does not exist is not the one that an empty trace would have either
        due(new ImpactPlate(), 1, 79991, 0);
    }

    private static void scriptOrder() {
        ImpactPlate x = new ImpactPlate();
        due(x, 2, 20000_10010L, 0);
        due(x, 2, 10010_20000L, 1);
        due(x, 3, 10010_20001_20000L, 2);
        due(x, 2, 10010, 0);
        due(x, 3, 10010_20001L, 0);
        due(x, 3, 10010_10010_70001L, -9);
        due(x, 3, 10010_70000_10010L, -9);
        due(x, 3, 70000_10010_10010L, 0);
    }

    private static void scriptsChangeNothing() {
        ImpactPlate x = new ImpactPlate();
        x.drop(0, 30);
        x.drop(1, 10);
        String before = Look.at(x);
        due(x, 3, 19960_20050_30040L, -9);
        due(x, 3, 10930_31000_00000L, 2);
        x.simulate(12345, 99);
        Check.due("all there is after scripts and simulations", Look.at(x), before);
        Check.due("undo()", x.undo(), 1);
        Check.due("about(1)", x.about(1), 1);
    }

    private static void simulate() {
        ImpactPlate x = new ImpactPlate();
        for (int m : new int[] {0, -1, 100, Integer.MIN_VALUE, Integer.MAX_VALUE}) {
            Check.dueThrow("simulate(5, " + m + ")", IllegalArgumentException.class, () -> x.simulate(5, m));
        }
        long[] seeds = {0, 1, -1, 5, 42, -77, Long.MIN_VALUE, Long.MAX_VALUE, 1L << 40, 987654321987654321L};
        for (long seed : seeds) {
            for (int m : new int[] {1, 2, 10, 50, 99}) {
                Check.due("simulate(" + seed + ", " + m + ")", new ImpactPlate().simulate(seed, m),
                        byHand(new ImpactPlate(), seed, m));
            }
        }
    }

    private static void simulateRounds() {
        for (int seed = 0; seed < 40; seed++) {
            ImpactPlate x = new ImpactPlate();
            x.set(0, seed);
            x.set(1, seed % 21);
            x.set(3, 1 + seed * 5);
            x.drop(3, 60);
            x.drop(0, 60);
            x.drop(3, 10);
            x.drop(50, 20);
            int answer = x.simulate(seed, 99);
            Check.due("about(1) after simulate", x.about(1), 4);
            Check.due("simulate(" + seed + ", 99)", answer, byHand(x, seed, 99));
        }
    }

    private static int byHand(ImpactPlate p, long seed, int m) {
        int[] before = {p.about(2), p.about(3), p.about(4), p.about(5)};
        long x = seed;
        for (int round = 0; round < m; round++) {
            x = x * 6364136223846793005L + 1442695040888963407L;
            int r = (int) (x >>> 33);
            if (r % 16 == 0) {
                p.set(0, r / 16 % 41);
            } else {
                p.drop(r / 1024 % 12, 1 + r / 16 % 60);
            }
        }
        return 1000000 * (p.about(2) - before[0]) + 10000 * (p.about(3) - before[1])
                + 100 * (p.about(4) - before[2]) + p.about(5) - before[3];
    }
}
