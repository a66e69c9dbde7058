/** Promises 21 to 25, wouldBe to bestWindow: each boundary with a test of its own. */
public final class WhatIfEdgeTest {
    public static void main(String[] args) {
        wouldBeAtTheWindowsEnd();
        wouldBeOfAnOpenPulse();
        wouldBeAtTheNoiseAndLevel();
        wouldBeFarAhead();
        leastSizeOf1();
        leastSizeOf60();
        leastSizeAtTheNoise();
        leastSizeAtTheLevel();
        leastSizeIsNotMerged();
        leastSizeOfNone();
        quietNow();
        quietWhenItIsHalved();
        quietAtLast();
        quietByTheDampingOfNow();
        replayFromSilence();
        replayAtTheWindowsEnd();
        replayAtTheDampingsEnd();
        replayWithTheOtherSettings();
        bestWindowAmongSeveral();
        bestWindowAtBothEnds();
        bestWindowByOne();
        bestWindowWithTheSettingsOfNow();
        bestWindowClosesTheLastPulse();
        Check.finish();
    }

    private static void wouldBeAtTheWindowsEnd() {
        for (int window = 0; window <= 20; window++) {
            ImpactPlate x = Plates.keen(window, 9);
            x.drop(5, 30);
            for (int ticks = 0; ticks <= 21; ticks++) {
                Check.due("wouldBe(" + ticks + ", 40) with the window " + window, x.wouldBe(ticks, 40),
                        ticks < window ? 1 : 0);
            }
        }
    }

    private static void wouldBeOfAnOpenPulse() {
        ImpactPlate x = Plates.keen(9, 9);
        x.drop(5, 30);
        x.pass(5);
        Check.due("wouldBe(3, 1)", x.wouldBe(3, 1), 1);
        Check.due("wouldBe(4, 1)", x.wouldBe(4, 1), 2);
        x.set(1, 5);
        Check.due("wouldBe(0, 1) when the window is shorter", x.wouldBe(0, 1), 2);
        x.set(1, 6);
        Check.due("wouldBe(0, 1) in the last tick", x.wouldBe(0, 1), 1);
        Check.due("about(11): nothing became of it", x.about(11), 1);
        x.set(1, 5);
        x.pass(1);
        x.set(1, 20);
        Check.due("wouldBe(0, 1) when the pulse is closed", x.wouldBe(0, 1), 2);
    }

    private static void wouldBeAtTheNoiseAndLevel() {
        int[][] rows = {{399, 0}, {400, 0}, {401, 2}};
        for (int[] row : rows) {
            ImpactPlate x = Plates.struck(row[0], 4);
            Check.due("wouldBe of 400 at the level " + row[0], x.wouldBe(3, 20), row[1]);
            ImpactPlate y = Plates.struck(2 * row[0] + 1, 4);
            Check.due("wouldBe of 400 before the halving", y.wouldBe(3, 20), 2);
            Check.due("wouldBe of 400 at the halving to " + row[0], y.wouldBe(4, 20), row[1]);
        }
        ImpactPlate z = new ImpactPlate();
        z.set(3, 36);
        Check.due("wouldBe of 36 with the noise 36", z.wouldBe(0, 6), 0);
        Check.due("wouldBe of 25 with the noise 36", z.wouldBe(0, 5), 3);
        z.set(0, 1);
        Check.due("wouldBe of 35 with the noise 36", z.wouldBe(0, 6), 3);
    }

    private static void wouldBeFarAhead() {
        ImpactPlate x = Plates.struck(5000, 9);
        Check.due("wouldBe(98, 2): 5000 halved ten times is 4", x.wouldBe(98, 2), 0);
        Check.due("wouldBe(98, 1)", x.wouldBe(98, 1), 2);
        Check.due("wouldBe(99, 1): 5000 halved eleven times is 2", x.wouldBe(99, 1), 2);
        x.pass(9);
        Check.due("wouldBe(99, 1): 5000 halved twelve times is 1", x.wouldBe(99, 1), 0);
        Check.due("wouldBe(98, 1)", x.wouldBe(98, 1), 2);
    }

    private static void leastSizeOf1() {
        ImpactPlate x = Plates.keen(3, 4);
        Check.due("leastSize(0)", x.leastSize(0), 1);
        Check.due("leastSize(99)", x.leastSize(99), 1);
        x.set(0, 1);
        Check.due("leastSize(0): a drop of 1 has the strength 0", x.leastSize(0), 2);
        ImpactPlate y = Plates.struck(1, 4);
        Check.due("leastSize(1) at the level 1", y.leastSize(1), 1);
        ImpactPlate z = Plates.struck(2, 4);
        Check.due("leastSize(1) at the level 2", z.leastSize(1), 2);
    }

    private static void leastSizeOf60() {
        ImpactPlate x = Plates.struck(3600, 4);
        Check.due("leastSize(1) at the level 3600", x.leastSize(1), 60);
        ImpactPlate y = Plates.struck(3601, 4);
        Check.due("leastSize(1) at the level 3601", y.leastSize(1), -9);
        ImpactPlate z = Plates.struck(3481, 4);
        Check.due("leastSize(1) at the level 3481", z.leastSize(1), 59);
        ImpactPlate w = Plates.struck(3482, 4);
        Check.due("leastSize(1) at the level 3482", w.leastSize(1), 60);
    }

    private static void leastSizeAtTheNoise() {
        int[][] rows = {{1, 1}, {2, 2}, {4, 2}, {5, 3}, {196, 14}, {197, 15}, {200, 15}};
        for (int[] row : rows) {
            ImpactPlate x = new ImpactPlate();
            x.set(3, row[0]);
            Check.due("leastSize(0) with the noise " + row[0], x.leastSize(0), row[1]);
        }
    }

    private static void leastSizeAtTheLevel() {
        ImpactPlate x = Plates.struck(1801, 4);
        Check.due("leastSize(3) at the level 1801", x.leastSize(3), 43);
        Check.due("leastSize(4) at the level 900", x.leastSize(4), 30);
        Check.due("leastSize(7) at the level 900", x.leastSize(7), 30);
        Check.due("leastSize(8) at the level 450", x.leastSize(8), 22);
        x.set(3, 200);
        Check.due("leastSize(99) with the noise 200", x.leastSize(99), 15);
    }

    // the smallest size of a drop that would be counted (not merged)
    private static void leastSizeIsNotMerged() {
        ImpactPlate x = Plates.keen(7, 9);
        x.drop(0, 30);
        Check.due("leastSize(0)", x.leastSize(0), -9);
        Check.due("leastSize(6)", x.leastSize(6), -9);
        Check.due("leastSize(7)", x.leastSize(7), 30);
        x.set(1, 0);
        Check.due("leastSize(0) with the window 0", x.leastSize(0), 30);
    }

    // NONE if there is none
    private static void leastSizeOfNone() {
        ImpactPlate x = Plates.struck(720, 4);
        x.set(0, 40);
        Check.due("leastSize(1) with the tilt 40 at the level 720", x.leastSize(1), 60);
        ImpactPlate y = Plates.struck(721, 4);
        y.set(0, 40);
        Check.due("leastSize(1) with the tilt 40 at the level 721", y.leastSize(1), -9);
        Check.due("leastSize(4) at the level 360", y.leastSize(4), 43);
    }

    // (0 if it is so now)
    private static void quietNow() {
        ImpactPlate x = Plates.struck(900, 4);
        Check.due("quietIn(900)", x.quietIn(900), 0);
        Check.due("quietIn(901)", x.quietIn(901), 0);
        Check.due("quietIn(5000)", x.quietIn(5000), 0);
        Check.due("quietIn(899)", x.quietIn(899), 4);
        ImpactPlate y = new ImpactPlate();
        Check.due("quietIn(0) of a plate that does not ring", y.quietIn(0), 0);
        ImpactPlate z = Plates.struck(5000, 4);
        Check.due("quietIn(5000) at the level 5000", z.quietIn(5000), 0);
        Check.due("quietIn(4999) at the level 5000", z.quietIn(4999), 4);
    }

    // the smallest number of ticks after which the level is at most this one
    private static void quietWhenItIsHalved() {
        ImpactPlate x = Plates.struck(901, 5);
        x.pass(3);
        int[][] rows = {{450, 2}, {449, 7}, {225, 7}, {224, 12}, {112, 12}, {111, 17}, {0, 47}, {1, 42}};
        for (int[] row : rows) {
            Check.due("quietIn(" + row[0] + ")", x.quietIn(row[0]), row[1]);
        }
        x.pass(2);
        Check.due("quietIn(450) at the halving", x.quietIn(450), 0);
        Check.due("quietIn(449) at the halving", x.quietIn(449), 5);
    }

    private static void quietAtLast() {
        for (int damping = 1; damping <= 9; damping++) {
            Check.due("quietIn(0) of 5000", Plates.struck(5000, damping).quietIn(0), 13 * damping);
            Check.due("quietIn(1) of 5000", Plates.struck(5000, damping).quietIn(1), 12 * damping);
            Check.due("quietIn(0) of 4096", Plates.struck(4096, damping).quietIn(0), 13 * damping);
            Check.due("quietIn(0) of 4095", Plates.struck(4095, damping).quietIn(0), 12 * damping);
            Check.due("quietIn(0) of 1", Plates.struck(1, damping).quietIn(0), damping);
        }
    }

    private static void quietByTheDampingOfNow() {
        ImpactPlate x = Plates.struck(900, 4);
        x.pass(7);
        Check.due("quietIn(449) with the damping 4", x.quietIn(449), 1);
        x.set(2, 9);
        Check.due("quietIn(450) with the damping 9", x.quietIn(450), 2);
        x.set(2, 1);
        Check.due("quietIn(7) with the damping 1", x.quietIn(7), 0);
        Check.due("quietIn(0) with the damping 1", x.quietIn(0), 3);
    }

    // on a plate that does not ring at first
    private static void replayFromSilence() {
        ImpactPlate x = new ImpactPlate();
        x.set(1, 0);
        x.drop(0, 60);
        for (int i = 0; i < 40; i++) {
            x.drop(0, 20);
        }
        Check.due("about(4)", x.about(4), 40);
        Check.due("replay(0, 9, 0)", x.replay(0, 9, 0), 2);
        Check.due("replay(0, 9, 2)", x.replay(0, 9, 2), 38);
        ImpactPlate y = new ImpactPlate();
        y.drop(0, 30);
        y.pass(1);
        Check.due("replay(20, 9, 0): no pulse is open at first either", y.replay(20, 9, 0), 1);
    }

    private static void replayAtTheWindowsEnd() {
        ImpactPlate x = new ImpactPlate();
        x.drop(9, 30);
        x.drop(19, 30);
        Check.due("replay(20, 9, 1): 19 ticks apart", x.replay(20, 9, 1), 1);
        Check.due("replay(19, 9, 1): 19 ticks apart", x.replay(19, 9, 1), 0);
        Check.due("replay(19, 9, 0)", x.replay(19, 9, 0), 2);
        ImpactPlate y = new ImpactPlate();
        y.drop(9, 30);
        y.drop(0, 30);
        Check.due("replay(1, 9, 1): in the same tick", y.replay(1, 9, 1), 1);
        Check.due("replay(0, 9, 1): in the same tick", y.replay(0, 9, 1), 0);
        Check.due("replay(0, 9, 0): in the same tick", y.replay(0, 9, 0), 2);
    }

    private static void replayAtTheDampingsEnd() {
        for (int damping = 1; damping <= 9; damping++) {
            ImpactPlate x = new ImpactPlate();
            x.drop(3, 30);
            x.drop(damping, 22);
            Check.due("replay(0, " + damping + ", 0): 484 at the level 450", x.replay(0, damping, 0), 2);
            if (damping < 9) {
                Check.due("replay(0, damping + 1, 2): 484 at the level 900", x.replay(0, damping + 1, 2), 1);
            }
        }
    }

    // the other settings being as they are
    private static void replayWithTheOtherSettings() {
        ImpactPlate x = new ImpactPlate();
        x.drop(3, 40);
        x.drop(0, 20);
        x.drop(0, 6);
        Check.due("replay(0, 4, 2)", x.replay(0, 4, 2), 2);
        x.set(3, 37);
        Check.due("replay(0, 4, 3) with the noise 37", x.replay(0, 4, 3), 1);
        x.set(3, 36);
        Check.due("replay(0, 4, 3) with the noise 36", x.replay(0, 4, 3), 0);
        x.set(0, 1);
        Check.due("replay(0, 4, 3) with the tilt 1: 35", x.replay(0, 4, 3), 1);
        ImpactPlate y = new ImpactPlate();
        y.drop(3, 40);
        y.drop(0, 22);
        Check.due("replay(0, 4, 2) at the level 1600", y.replay(0, 4, 2), 1);
        y.set(4, 500);
        Check.due("replay(0, 4, 2) at the saturation 500", y.replay(0, 4, 2), 1);
        y.drop(0, 23);
        Check.due("replay(0, 4, 0): 529 at the saturation 500", y.replay(0, 4, 0), 2);
    }

    private static ImpactPlate rained(int damping, int[][] drops) {
        ImpactPlate x = new ImpactPlate();
        x.set(2, damping);
        for (int[] drop : drops) {
            x.drop(drop[0], drop[1]);
        }
        return x;
    }

    // among several the smallest
    private static void bestWindowAmongSeveral() {
        ImpactPlate one = rained(4, new int[][] {{5, 30}});
        for (int law = 0; law <= 2; law++) {
            Check.due("bestWindow of one drop", one.bestWindow(law), 0);
        }
        // true 108000; reckoned 91000 with the window 0, 125000 with the window 10
        Check.due("bestWindow: as much too little as too much",
                rained(7, new int[][] {{0, 34}, {9, 38}, {0, 24}}).bestWindow(0), 0);
        // true 59364; reckoned 60228 with the window 5, 58500 with the window 17
        Check.due("bestWindow: as much too much as too little",
                rained(8, new int[][] {{0, 9}, {4, 11}, {12, 22}, {13, 36}}).bestWindow(1), 5);
    }

    // the window, 0 to 20
    private static void bestWindowAtBothEnds() {
        ImpactPlate x = rained(1, new int[][] {{0, 30}, {19, 30}});
        Check.due("bestWindow(0): apart", x.bestWindow(0), 0);
        Check.due("bestWindow(2): together, which the window 20 alone brings", x.bestWindow(2), 20);
        ImpactPlate y = rained(1, new int[][] {{0, 30}, {18, 30}});
        Check.due("bestWindow(2): together, from the window 19 on", y.bestWindow(2), 19);
        ImpactPlate z = rained(1, new int[][] {{0, 30}, {0, 30}});
        Check.due("bestWindow(2): together, from the window 1 on", z.bestWindow(2), 1);
    }

    // differs least: by one less than the next
    private static void bestWindowByOne() {
        // true 33706; reckoned 36163 (2457 more) with the window 0, 31250 (2456 less) with the window 18
        Check.due("bestWindow(1)", rained(4, new int[][] {{0, 15}, {17, 22}, {20, 27}}).bestWindow(1), 18);
        // true 29188; reckoned 30375 (1187 more) with the window 1, 28000 (1188 less) with the window 7
        Check.due("bestWindow(0)", rained(2, new int[][] {{0, 24}, {0, 23}, {6, 13}, {3, 10}}).bestWindow(0), 1);
        // true 55188; reckoned 38375 (16813 less) with the window 0, 72000 (16812 more) with the window 20
        Check.due("bestWindow(0)", rained(5, new int[][] {{0, 30}, {1, 24}, {18, 13}, {19, 23}}).bestWindow(0), 20);
    }

    // with the damping as it is and the borders as they are now
    private static void bestWindowWithTheSettingsOfNow() {
        ImpactPlate x = rained(1, new int[][] {{0, 30}, {19, 30}});
        x.setBorder(5, 902);
        Check.due("bestWindow(2) with the border 5 at 902: apart 30 cubed twice", x.bestWindow(2), 0);
        // true 51389; 841 falls at the level 450 (1066: 27000 twice), or is hidden (27000); together 64000
        ImpactPlate y = rained(2, new int[][] {{0, 30}, {3, 29}});
        Check.due("bestWindow(0) with the damping 2", y.bestWindow(0), 0);
        y.set(2, 9);
        Check.due("bestWindow(0) with the damping 9", y.bestWindow(0), 4);
        y.set(2, 2);
        y.set(1, 20);
        Check.due("bestWindow(0) whatever the window is now", y.bestWindow(0), 0);
    }

    // and the last pulse closed as well
    private static void bestWindowClosesTheLastPulse() {
        // true 16000; the bin's middle gives 15625 twice, or together, from the window 6 on, once
        ImpactPlate x = rained(1, new int[][] {{0, 20}, {5, 20}});
        Check.due("bestWindow(1)", x.bestWindow(1), 6);
        x.pass(1);
        Check.due("bestWindow(1) with the pulse still open on the plate", x.bestWindow(1), 6);
        x.pass(9);
        Check.due("bestWindow(1) with the pulse closed on the plate", x.bestWindow(1), 6);
    }
}
