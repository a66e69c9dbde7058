import java.util.Random;

/** All promises at once: long runs of mixed calls, each answered by the plate and by the slow model. */
public final class ModelTest {
    private static final int RUNS = 150;
    // what later calls answer is free
    private static final int CALLS = 512;
    private static final int MOST_CALLS_A_PART = 10;

    public static void main(String[] args) {
        for (int run = 0; run < RUNS; run++) {
            run(run, new Random(1000 + run));
        }
        Check.finish();
    }

    private static void run(int run, Random dice) {
        ImpactPlate x = new ImpactPlate();
        Model y = new Model();
        // some runs mostly rain, some mostly change, some mostly ask
        int rainy = dice.nextInt(3);
        int calls = 0;
        while (calls < CALLS) {
            int kind = rainy == 0 && dice.nextInt(3) > 0 ? 11 : rainy == 1 && dice.nextInt(2) == 0
                    ? 11 + dice.nextInt(5) : dice.nextInt(28);
            int[] a = {number(dice, kind, 0), number(dice, kind, 1), dice.nextInt(12) == 0 ? 4 : dice.nextInt(4)};
            long big = kind == 24 ? script(dice, a[0]) : dice.nextLong();
            String call = "run " + run + ", call " + calls + ": kind " + kind + " with " + a[0] + ", " + a[1] + ", "
                    + a[2] + ", " + big;
            if (kind == 0 && calls < CALLS - MOST_CALLS_A_PART && dice.nextInt(3) > 0) {
                calls += appendPart(x, y, dice);
            }
            Check.due(call, Check.answer(() -> ofPlate(x, kind, a, big)),
                    Check.answer(() -> ofModel(y, kind, a, big)));
            calls++;
        }
    }

    /** Answers how many calls it made. */
    private static int appendPart(ImpactPlate x, Model y, Random dice) {
        int calls = 2;
        if (dice.nextInt(4) == 0) {
            Check.due("clearText()", x.clearText(), y.clearText());
            calls++;
        }
        String[] starts = {"P", "d", "p", "t", "w", "g", "Pd"};
        String part = starts[dice.nextInt(starts.length)];
        part = part + (part.endsWith("d") ? String.valueOf(1000 + dice.nextInt(9000))
                : part.equals("P") ? "" : part.equals("g") ? String.valueOf(dice.nextInt(10))
                : String.valueOf(10 + dice.nextInt(35)));
        for (char c : part.toCharArray()) {
            Check.due("append " + c, Check.answer(() -> x.append(c)), Check.answer(() -> y.append(c)));
        }
        Check.due("errorPosition()", x.errorPosition(), y.errorPosition());
        Check.due("load()", Check.answer(x::load), Check.answer(y::load));
        return calls + part.length();
    }

    private static int number(Random dice, int kind, int place) {
        if (dice.nextInt(60) == 0) {
            return dice.nextInt();
        }
        if (dice.nextInt(15) == 0) {
            return dice.nextInt(12) - 2;
        }
        switch (kind) {
            case 0: return "Pdptwg0123456789 x".charAt(dice.nextInt(18));
            case 4: case 9: return dice.nextInt(13) - 1;
            case 6: case 7: case 26: case 27: return dice.nextInt(place == 0 && kind > 7 ? 2 : 5);
            case 8: return dice.nextInt(64);
            case 10: return place == 0 ? 1 + dice.nextInt(3) : Integer.parseInt(Integer.toString(dice.nextInt(64), 4));
            case 11: case 18: return place == 0 ? (dice.nextInt(8) == 0 ? dice.nextInt(101) : dice.nextInt(6))
                    : 1 + (dice.nextBoolean() ? dice.nextInt(61) : dice.nextInt(12));
            case 12: return dice.nextInt(dice.nextBoolean() ? 101 : 5);
            case 13: return place == 0 ? dice.nextInt(5) : dice.nextInt(dice.nextInt(3) > 0 ? 21 : 3000);
            case 14: return place == 0 ? dice.nextInt(9) : dice.nextInt(dice.nextBoolean() ? 5001 : 900);
            case 19: return dice.nextInt(101);
            case 20: return dice.nextInt(dice.nextBoolean() ? 5001 : 50);
            case 21: return place == 0 ? dice.nextInt(22) : 1 + dice.nextInt(10);
            case 24: return 1 + dice.nextInt(3);
            case 25: return 1 + dice.nextInt(99);
            default: return dice.nextInt(4);
        }
    }

    private static long script(Random dice, int n) {
        if (dice.nextInt(20) == 0) {
            return dice.nextLong() % 2000000000000000L;
        }
        long script = 0;
        for (int i = 0; i < n && i < 3; i++) {
            int[] groups = {10000 + 100 * dice.nextInt(12) + dice.nextInt(62), 20000 + dice.nextInt(12),
                30000 + 1000 * dice.nextInt(5) + dice.nextInt(20), 34500 + dice.nextInt(500),
                40000 + 1000 * dice.nextInt(4) + dice.nextInt(40), 50000 + 1000 * dice.nextInt(8) + dice.nextInt(4),
                60000 + dice.nextInt(1000), 70000 + dice.nextInt(5), 80000 + dice.nextInt(3), dice.nextInt(100000)};
            script = script * 100000 + groups[dice.nextInt(groups.length)];
        }
        return script;
    }

    private static long ofPlate(ImpactPlate x, int kind, int[] a, long big) {
        switch (kind) {
            case 0: return x.append(a[0]);
            case 1: return a[2] == 0 ? x.clearText() : x.errorPosition();
            case 2: return x.errorPosition();
            case 3: return x.load();
            case 4: return x.about(a[0]);
            case 5: return x.setting(a[0]);
            case 6: return x.bin(a[0] + a[2], a[1]);
            case 7: return x.pulse(a[0]);
            case 8: return x.fate(a[0]);
            case 9: return x.longest(a[0]);
            case 10: return x.pattern(a[0], a[1]);
            case 11: return x.drop(a[0], a[1]);
            case 12: return x.pass(a[0]);
            case 13: return x.set(a[0], a[1]);
            case 14: return x.setBorder(a[0], a[1]);
            case 15: return a[2] == 0 ? x.empty() : x.undo();
            case 16: return x.rain(a[0]);
            case 17: return x.trueRain();
            case 18: return x.wouldBe(a[0], a[1]);
            case 19: return x.leastSize(a[0]);
            case 20: return x.quietIn(a[0]);
            case 21: return x.replay(a[0], a[1], a[2]);
            case 22: return x.bestWindow(a[0]);
            case 23: return x.undo();
            case 24: return x.runScript(a[0], big);
            case 25: return x.simulate(big, a[0]);
            case 26: return x.save(a[0]);
            default: return x.restore(a[0]);
        }
    }

    private static long ofModel(Model y, int kind, int[] a, long big) {
        switch (kind) {
            case 0: return y.append(a[0]);
            case 1: return a[2] == 0 ? y.clearText() : y.errorPosition();
            case 2: return y.errorPosition();
            case 3: return y.load();
            case 4: return y.about(a[0]);
            case 5: return y.setting(a[0]);
            case 6: return y.bin(a[0] + a[2], a[1]);
            case 7: return y.pulse(a[0]);
            case 8: return y.fate(a[0]);
            case 9: return y.longest(a[0]);
            case 10: return y.pattern(a[0], a[1]);
            case 11: return y.drop(a[0], a[1]);
            case 12: return y.pass(a[0]);
            case 13: return y.set(a[0], a[1]);
            case 14: return y.setBorder(a[0], a[1]);
            case 15: return a[2] == 0 ? y.empty() : y.undo();
            case 16: return y.rain(a[0]);
            case 17: return y.trueRain();
            case 18: return y.wouldBe(a[0], a[1]);
            case 19: return y.leastSize(a[0]);
            case 20: return y.quietIn(a[0]);
            case 21: return y.replay(a[0], a[1], a[2]);
            case 22: return y.bestWindow(a[0]);
            case 23: return y.undo();
            case 24: return y.runScript(a[0], big);
            case 25: return y.simulate(big, a[0]);
            case 26: return y.save(a[0]);
            default: return y.restore(a[0]);
        }
    }
}
