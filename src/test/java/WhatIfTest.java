import java.util.Random;

/** Promises 21 to 25: wouldBe, leastSize, quietIn, replay, bestWindow. */
public final class WhatIfTest {
    public static void main(String[] args) {
        wouldBe();
        leastSize();
        quietIn();
        replay();
        replayOfFullRecord();
        bestWindow();
        bestWindowTells();
        bestWindowOfManyRecords();
        Check.finish();
    }

    private static ImpactPlate afterBigDrop() {
        ImpactPlate x = new ImpactPlate();
        x.drop(5, 50);
        return x;
    }

    private static void wouldBe() {
        ImpactPlate x = afterBigDrop();
        String before = Look.at(x);
        Check.due("wouldBe(2, 1)", x.wouldBe(2, 1), 1);
        Check.due("wouldBe(3, 1)", x.wouldBe(3, 1), 3);
        Check.due("wouldBe(3, 5)", x.wouldBe(3, 5), 2);
        Check.due("wouldBe(3, 49)", x.wouldBe(3, 49), 2);
        Check.due("wouldBe(3, 50)", x.wouldBe(3, 50), 0);
        Check.due("wouldBe(3, 4)", x.wouldBe(3, 4), 3);
        Check.due("wouldBe(4, 36): 1296 above 1250", x.wouldBe(4, 36), 0);
        Check.due("wouldBe(4, 35): 1225 below 1250", x.wouldBe(4, 35), 2);
        Check.due("wouldBe(99, 5)", x.wouldBe(99, 5), 0);
        Check.due("wouldBe(0, 60)", x.wouldBe(0, 60), 1);
        Check.due("all there is after wouldBe", Look.at(x), before);
        int[][] wrong = {{-1, 30}, {100, 30}, {0, 0}, {0, 61}, {-1, 61}, {Integer.MIN_VALUE, 1},
            {Integer.MAX_VALUE, 1}, {0, Integer.MIN_VALUE}, {0, Integer.MAX_VALUE}};
        for (int[] row : wrong) {
            Check.dueThrow("wouldBe(" + row[0] + ", " + row[1] + ")", IllegalArgumentException.class,
                    () -> x.wouldBe(row[0], row[1]));
        }
    }

    private static void leastSize() {
        ImpactPlate x = new ImpactPlate();
        Check.due("leastSize(0) with the noise 20", x.leastSize(0), 5);
        x.set(3, 25);
        Check.due("leastSize(0) with the noise 25", x.leastSize(0), 5);
        x.set(3, 26);
        Check.due("leastSize(0) with the noise 26", x.leastSize(0), 6);
        x.set(3, 1);
        Check.due("leastSize(0) with the noise 1", x.leastSize(0), 1);
        x.set(0, 40);
        Check.due("leastSize(0) with the tilt 40", x.leastSize(0), 3);
        ImpactPlate y = afterBigDrop();
        String before = Look.at(y);
        Check.due("leastSize(2): all would be merged", y.leastSize(2), -9);
        Check.due("leastSize(3)", y.leastSize(3), 50);
        Check.due("leastSize(4)", y.leastSize(4), 36);
        Check.due("leastSize(99)", y.leastSize(99), 5);
        Check.due("all there is after leastSize", Look.at(y), before);
        y.set(4, 5000);
        y.drop(0, 45);
        Check.due("leastSize(3): the level is 4525", y.leastSize(3), -9);
        y.set(0, 0);
        Check.due("leastSize(4)", y.leastSize(4), 48);
        y.pass(3);
        y.set(4, 3600);
        y.set(1, 0);
        y.drop(97, 60);
        Check.due("leastSize(0): a drop of 3600", y.leastSize(0), 60);
        for (int ticks : new int[] {-1, 100, Integer.MIN_VALUE, Integer.MAX_VALUE}) {
            Check.dueThrow("leastSize(" + ticks + ")", IllegalArgumentException.class,
                    () -> y.leastSize(ticks));
        }
    }

    private static void quietIn() {
        ImpactPlate x = afterBigDrop();
        int[][] want = {{5000, 0}, {2500, 0}, {2499, 4}, {1250, 4}, {1249, 8}, {1, 44}, {0, 48}};
        for (int[] row : want) {
            Check.due("quietIn(" + row[0] + ")", x.quietIn(row[0]), row[1]);
        }
        x.pass(3);
        Check.due("quietIn(2499) later", x.quietIn(2499), 1);
        x.pass(45);
        Check.due("quietIn(0) in silence", x.quietIn(0), 0);
        for (int level : new int[] {-1, 5001, Integer.MIN_VALUE, Integer.MAX_VALUE}) {
            Check.dueThrow("quietIn(" + level + ")", IllegalArgumentException.class, () -> x.quietIn(level));
        }
        ImpactPlate y = new ImpactPlate();
        y.set(4, 5000);
        y.set(2, 9);
        y.drop(0, 60);
        y.drop(0, 60);
        Check.due("quietIn(4999)", y.quietIn(4999), 9);
        Check.due("quietIn(0): as long as it can ring", y.quietIn(0), 117);
        y.set(2, 1);
        Check.due("quietIn(0) with the damping 1", y.quietIn(0), 13);
    }

    private static void replay() {
        ImpactPlate x = new ImpactPlate();
        Check.due("replay of no drop", x.replay(3, 4, 0), 0);
        x.drop(5, 50);
        x.drop(2, 2);
        x.drop(1, 3);
        x.drop(0, 49);
        x.pass(1);
        x.drop(0, 40);
        x.drop(5, 20);
        String before = Look.at(x);
        int[][] same = {{0, 2}, {1, 1}, {2, 2}, {3, 1}};
        for (int[] row : same) {
            Check.due("replay(3, 4, " + row[0] + ")", x.replay(3, 4, row[0]), row[1]);
        }
        int[][] wide = {{0, 1}, {1, 5}, {2, 0}, {3, 0}};
        for (int[] row : wide) {
            Check.due("replay(20, 9, " + row[0] + ")", x.replay(20, 9, row[0]), row[1]);
        }
        int[][] none = {{0, 4}, {1, 0}, {2, 0}, {3, 2}};
        for (int[] row : none) {
            Check.due("replay(0, 1, " + row[0] + ")", x.replay(0, 1, row[0]), row[1]);
        }
        Check.due("all there is after replay", Look.at(x), before);
        x.set(3, 1);
        Check.due("replay(0, 1, 3) with the noise that is now", x.replay(0, 1, 3), 0);
        x.set(3, 20);
        x.set(0, 40);
        Check.due("replay(0, 1, 3) with the tilt that is now", x.replay(0, 1, 3), 2);
        Check.due("replay(8, 9, 2) with the tilt that is now", x.replay(8, 9, 2), 1);
        int[][] wrong = {{-1, 4, 0}, {21, 4, 0}, {3, 0, 0}, {3, 10, 0}, {3, 4, -1}, {3, 4, 4},
            {Integer.MIN_VALUE, 4, 0}, {Integer.MAX_VALUE, 4, 0}, {3, Integer.MIN_VALUE, 0},
            {3, Integer.MAX_VALUE, 0}, {3, 4, Integer.MIN_VALUE}, {3, 4, Integer.MAX_VALUE}};
        for (int[] row : wrong) {
            Check.dueThrow("replay(" + row[0] + ", " + row[1] + ", " + row[2] + ")",
                    IllegalArgumentException.class, () -> x.replay(row[0], row[1], row[2]));
        }
    }

    private static void replayOfFullRecord() {
        ImpactPlate x = new ImpactPlate();
        x.set(1, 0);
        x.drop(0, 50);
        for (int i = 0; i < 39; i++) {
            x.drop(0, 10);
        }
        Check.due("replay of 40 drops", x.replay(0, 4, 2), 39);
        x.drop(0, 10);
        Check.due("about(9)", x.about(9), 40);
        Check.due("replay on a plate that does not ring at first", x.replay(20, 4, 0), 1);
        Check.due("replay on a plate that does not ring at first", x.replay(20, 4, 1), 39);
        Check.due("replay: 100, 150, and all others hidden", x.replay(0, 4, 0), 2);
        Check.due("replay: 100, 150, and all others hidden", x.replay(0, 4, 2), 38);
        ImpactPlate y = new ImpactPlate();
        y.drop(9, 50);
        for (int i = 0; i < 30; i++) {
            y.pass(99);
        }
        y.drop(1, 10);
        Check.due("a gap longer than a drop can wait", y.replay(20, 9, 0), 2);
        y.undo();
        y.drop(0, 10);
        Check.due("a gap of ticks that went by", y.replay(20, 9, 0), 2);
    }

    private static void bestWindow() {
        ImpactPlate x = new ImpactPlate();
        x.drop(0, 30);
        for (int law = 0; law <= 2; law++) {
            Check.due("bestWindow of one drop: the smallest", x.bestWindow(law), 0);
        }
        for (int law : new int[] {-1, 3, Integer.MIN_VALUE, Integer.MAX_VALUE}) {
            Check.dueThrow("bestWindow(" + law + ")", IllegalArgumentException.class, () -> x.bestWindow(law));
        }
        String before = Look.at(x);
        x.bestWindow(1);
        Check.due("all there is after bestWindow", Look.at(x), before);
    }

    // two drops, gap ticks apart: true rain 2 * 27000. Apart: 900 in the bin 4, then 900 + half of what rings.
    private static void bestWindowTells() {
        ImpactPlate x = new ImpactPlate();
        x.set(2, 1);
        x.drop(0, 30);
        x.drop(19, 30);
        Check.due("bestWindow(0): apart 27000 and 27000", x.bestWindow(0), 0);
        Check.due("bestWindow(2): together 49 cubed, apart 39 cubed twice", x.bestWindow(2), 20);
        x.setBorder(5, 902);
        Check.due("bestWindow(2) by the borders as they are now", x.bestWindow(2), 0);
        ImpactPlate y = new ImpactPlate();
        y.set(2, 9);
        y.drop(0, 30);
        y.drop(6, 5);
        y.drop(0, 5);
        Check.due("bestWindow(0): hidden drops are lost, so the first window of all", y.bestWindow(0), 0);
    }

    private static void bestWindowOfManyRecords() {
        Random dice = new Random(7);
        for (int i = 0; i < 60; i++) {
            int[][] drops = new int[1 + dice.nextInt(40)][];
            for (int j = 0; j < drops.length; j++) {
                drops[j] = new int[] {dice.nextInt(12), 10 + dice.nextInt(51)};
            }
            int damping = 1 + dice.nextInt(9);
            ImpactPlate x = plateWith(dice.nextInt(21), damping);
            // these the record forgets
            for (int j = 0; j < 5; j++) {
                x.drop(99, 60);
            }
            for (int j = 0; j < 40 - drops.length; j++) {
                x.drop(99, 33);
            }
            for (int[] d : drops) {
                x.drop(d[0], d[1]);
            }
            for (int law = 0; law <= 2; law++) {
                Check.due("bestWindow(" + law + ") of record " + i, x.bestWindow(law), best(drops, damping, law));
            }
        }
    }

    private static ImpactPlate plateWith(int window, int damping) {
        ImpactPlate p = new ImpactPlate();
        p.set(4, 5000);
        p.set(1, window);
        p.set(2, damping);
        return p;
    }

    /** Lets the record's drops fall again on one new plate for each window. */
    private static int best(int[][] drops, int damping, int law) {
        int best = -1;
        long least = Long.MAX_VALUE;
        for (int window = 0; window <= 20; window++) {
            ImpactPlate p = plateWith(window, damping);
            for (int j = 0; j < 40 - drops.length; j++) {
                p.drop(99, 33);
            }
            for (int[] d : drops) {
                p.drop(d[0], d[1]);
            }
            p.pass(99);
            long error = Math.abs(p.rain(law) - p.trueRain());
            if (error < least) {
                least = error;
                best = window;
            }
        }
        return best;
    }
}
