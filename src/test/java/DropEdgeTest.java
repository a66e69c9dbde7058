/** "DROPS" of the document: each sentence that names a boundary, with a test of its own. */
public final class DropEdgeTest {
    public static void main(String[] args) {
        mergedBeforeTheWindowEnds();
        mergedHoweverFaint();
        mergedUpToTheSaturation();
        mergedFallsToTheSaturation();
        mergedStrengthOf0FallsToo();
        saturatedStaysSo();
        beganStaysWhenMerged();
        closedByTheNextDrop();
        closedDropGoesOnRinging();
        faintBelowTheNoise();
        faintBeforeHidden();
        hiddenBelowTheLevel();
        countedOnHalfTheLevel();
        countedUpToTheSaturation();
        countedAboveALowerSaturation();
        faintOrHiddenChangesNoRinging();
        closedByTime();
        closedByTimeOnce();
        openWhenTheWindowIsChanged();
        openWithTheWindow0();
        longerWindowKeepsItOpen();
        fatesByNumbers();
        Check.finish();
    }

    // If a pulse is open, and t - T is less than the window, the drop is merged
    private static void mergedBeforeTheWindowEnds() {
        for (int ticks = 0; ticks <= 4; ticks++) {
            ImpactPlate x = new ImpactPlate();
            x.set(1, 4);
            x.drop(3, 30);
            Check.due("a drop " + ticks + " ticks later", x.drop(ticks, 60), ticks < 4 ? 1 : 0);
            Check.due("about(6)", x.about(6), ticks < 4 ? 0 : 1);
        }
        ImpactPlate y = new ImpactPlate();
        y.set(1, 4);
        y.drop(0, 4);
        Check.due("no pulse is open: nothing to be merged with", y.drop(0, 4), 3);
    }

    // (however faint it is)
    private static void mergedHoweverFaint() {
        ImpactPlate x = new ImpactPlate();
        x.set(3, 200);
        x.drop(0, 30);
        Check.due("a drop far below the noise", x.drop(0, 1), 1);
        Check.due("pulse(1)", x.pulse(1), 901);
        x.set(0, 40);
        Check.due("a drop with the strength 0", x.drop(0, 1), 1);
        Check.due("pulse(1)", x.pulse(1), 901);
        Check.due("pulse(2)", x.pulse(2), 3);
    }

    // A becomes A + a, but at most the saturation; if A + a is more than that, the pulse is saturated.
    private static void mergedUpToTheSaturation() {
        ImpactPlate x = Plates.keen(3, 4);
        x.set(4, 1000);
        x.drop(0, 30);
        Check.due("merged", x.drop(0, 10), 1);
        Check.due("pulse(1): 900 + 100", x.pulse(1), 1000);
        Check.due("pulse(3): just the saturation", x.pulse(3), 0);
        ImpactPlate y = Plates.keen(3, 4);
        y.set(4, 1000);
        Plates.strike(y, 901);
        y.drop(0, 10);
        Check.due("pulse(1): 901 + 100", y.pulse(1), 1000);
        Check.due("pulse(3): one more", y.pulse(3), 1);
    }

    // (to which it may fall)
    private static void mergedFallsToTheSaturation() {
        ImpactPlate x = Plates.keen(3, 4);
        x.drop(0, 50);
        x.set(4, 500);
        Check.due("pulse(1) before", x.pulse(1), 2500);
        Check.due("pulse(3) before", x.pulse(3), 0);
        x.drop(0, 1);
        Check.due("pulse(1) falls", x.pulse(1), 500);
        Check.due("pulse(3)", x.pulse(3), 1);
        x.pass(3);
        Check.due("bin(3, 2): in the bin of what it fell to", x.bin(3, 2), 1);
    }

    private static void mergedStrengthOf0FallsToo() {
        ImpactPlate x = Plates.keen(3, 4);
        x.drop(0, 50);
        x.set(4, 2499);
        x.set(0, 40);
        x.drop(0, 1);
        Check.due("pulse(1) falls by one", x.pulse(1), 2499);
        Check.due("pulse(3)", x.pulse(3), 1);
        ImpactPlate y = Plates.keen(3, 4);
        y.drop(0, 50);
        y.set(4, 2500);
        y.set(0, 40);
        y.drop(0, 1);
        Check.due("pulse(1) is just the saturation", y.pulse(1), 2500);
        Check.due("pulse(3)", y.pulse(3), 0);
    }

    private static void saturatedStaysSo() {
        ImpactPlate x = Plates.keen(3, 4);
        x.set(4, 500);
        x.drop(0, 30);
        x.set(4, 5000);
        x.drop(0, 1);
        Check.due("pulse(1)", x.pulse(1), 501);
        Check.due("pulse(3)", x.pulse(3), 1);
        x.pass(3);
        Check.due("about(7)", x.about(7), 1);
        x.drop(0, 40);
        Check.due("pulse(3) of the next pulse", x.pulse(3), 0);
    }

    // T stays
    private static void beganStaysWhenMerged() {
        ImpactPlate x = Plates.keen(3, 4);
        x.drop(5, 30);
        x.drop(2, 10);
        Check.due("pulse(0)", x.pulse(0), 2);
        Check.due("about(8)", x.about(8), 1000);
        Check.due("a drop 3 ticks after the first", x.drop(1, 40), 0);
        ImpactPlate y = Plates.keen(3, 4);
        y.drop(5, 30);
        y.drop(2, 10);
        Check.due("the level 3 ticks after the first", y.pass(1), 1000);
        Check.due("the level 4 ticks after the first", y.pass(1), 500);
    }

    // Otherwise, if a pulse is open, it is closed: it is counted in its bin with its A
    private static void closedByTheNextDrop() {
        int[][] next = {{4, 3}, {29, 2}, {30, 0}};
        for (int[] row : next) {
            ImpactPlate x = new ImpactPlate();
            x.set(1, 0);
            x.drop(5, 30);
            Check.due("about(6) before", x.about(6), 0);
            Check.due("a drop of " + row[0], x.drop(0, row[0]), row[1]);
            Check.due("about(6) after it", x.about(6), 1);
            Check.due("bin(4, 2): by its 900", x.bin(4, 2), 1);
            Check.due("bin(4, 4)", x.bin(4, 4), 1);
            Check.due("about(11)", x.about(11), row[1] == 0 ? 1 : 0);
        }
    }

    // (the plate goes on ringing)
    private static void closedDropGoesOnRinging() {
        ImpactPlate x = Plates.keen(3, 4);
        x.drop(5, 30);
        Check.due("the level when time closes it", x.pass(3), 900);
        Check.due("about(11)", x.about(11), 0);
        Check.due("the level behind it", x.pass(1), 450);
        x.drop(50, 30);
        x.set(1, 0);
        x.set(3, 5);
        Check.due("a faint drop closes it", x.drop(0, 1), 3);
        Check.due("about(11)", x.about(11), 0);
        Check.due("the level when a drop closes it", x.about(8), 900);
    }

    // if a is less than the noise, the drop is faint
    private static void faintBelowTheNoise() {
        ImpactPlate x = new ImpactPlate();
        x.set(3, 37);
        Check.due("36 with the noise 37", x.drop(0, 6), 3);
        x.set(3, 36);
        Check.due("36 with the noise 36", x.drop(0, 6), 0);
        ImpactPlate y = new ImpactPlate();
        y.set(3, 35);
        Check.due("36 with the noise 35", y.drop(0, 6), 0);
    }

    // otherwise, if the level of the plate at t is greater than a
    private static void faintBeforeHidden() {
        ImpactPlate x = new ImpactPlate();
        x.set(1, 0);
        x.drop(0, 50);
        Check.due("below the noise and the level", x.drop(0, 4), 3);
        Check.due("below the level alone", x.drop(0, 5), 2);
    }

    private static void hiddenBelowTheLevel() {
        int[][] rows = {{399, 0}, {400, 0}, {401, 2}};
        for (int[] row : rows) {
            ImpactPlate x = Plates.struck(row[0], 4);
            Check.due("400 at the level " + row[0], x.drop(1, 20), row[1]);
            ImpactPlate y = Plates.struck(row[0] * 2, 4);
            Check.due("400 at the level before it is halved", y.wouldBe(3, 20), 2);
            Check.due("400 at the level that is halved to " + row[0], y.drop(4, 20), row[1]);
            ImpactPlate z = Plates.struck(row[0] * 2 + 1, 4);
            Check.due("400 at the level that is halved, rounded down, to " + row[0], z.drop(4, 20), row[1]);
        }
    }

    // T is t, and A is a + (the level at t) / 2, rounded down
    private static void countedOnHalfTheLevel() {
        int[][] rows = {{0, 400}, {1, 400}, {2, 401}, {3, 401}, {399, 599}, {400, 600}};
        for (int[] row : rows) {
            ImpactPlate x = Plates.struck(row[0], 4);
            x.drop(3, 20);
            Check.due("pulse(1) of 400 at the level " + row[0], x.pulse(1), row[1]);
            Check.due("pulse(0)", x.pulse(0), 0);
            Check.due("pulse(2)", x.pulse(2), 1);
            Check.due("about(8)", x.about(8), row[1]);
            Check.due("about(8) a damping later", x.pass(4), row[1] / 2);
        }
        ImpactPlate y = Plates.struck(401, 4);
        y.drop(4, 20);
        Check.due("pulse(1) of 400 at the level 200", y.pulse(1), 500);
    }

    // but at most the saturation; if it would be more, the pulse is saturated
    private static void countedUpToTheSaturation() {
        int[][] rows = {{198, 499, 0}, {200, 500, 0}, {201, 500, 0}, {202, 500, 1}, {400, 500, 1}};
        for (int[] row : rows) {
            ImpactPlate x = Plates.struck(row[0], 4);
            x.set(4, 500);
            Check.due("400 at the level " + row[0], x.drop(1, 20), 0);
            Check.due("pulse(1) of 400 at the level " + row[0], x.pulse(1), row[1]);
            Check.due("pulse(3) of 400 at the level " + row[0], x.pulse(3), row[2]);
            x.pass(1);
            Check.due("about(7)", x.about(7), row[2]);
        }
    }

    private static void countedAboveALowerSaturation() {
        ImpactPlate x = new ImpactPlate();
        x.set(4, 500);
        x.drop(0, 23);
        Check.due("pulse(1) of 529", x.pulse(1), 500);
        Check.due("pulse(3) of 529", x.pulse(3), 1);
        Check.due("about(8)", x.about(8), 500);
        ImpactPlate y = new ImpactPlate();
        y.set(4, 500);
        y.drop(0, 22);
        Check.due("pulse(1) of 484", y.pulse(1), 484);
        Check.due("pulse(3) of 484", y.pulse(3), 0);
    }

    // (A drop that is faint or hidden changes nothing of the ringing.)
    private static void faintOrHiddenChangesNoRinging() {
        int[][] drops = {{4, 3}, {20, 2}};
        for (int[] drop : drops) {
            ImpactPlate x = new ImpactPlate();
            x.drop(0, 40);
            x.pass(3);
            Check.due("the fate", x.drop(0, drop[0]), drop[1]);
            Check.due("about(8)", x.about(8), 1600);
            Check.due("the level a damping after the first drop", x.pass(1), 800);
            Check.due("quietIn(799)", x.quietIn(799), 4);
            Check.due("about(11)", x.about(11), 0);
            Check.due("pulse(2)", x.pulse(2), -9);
        }
    }

    // When ticks go by without drops, an open pulse is closed as soon as t - T is not less than the window.
    private static void closedByTime() {
        for (int window = 2; window <= 20; window++) {
            ImpactPlate x = Plates.keen(window, 4);
            x.drop(6, 30);
            x.pass(window - 1);
            Check.due("about(11) before the window " + window + " ends", x.about(11), 1);
            Check.due("about(6)", x.about(6), 0);
            x.pass(1);
            Check.due("about(11) when it ends", x.about(11), 0);
            Check.due("about(6)", x.about(6), 1);
        }
        ImpactPlate y = Plates.keen(1, 4);
        y.drop(6, 30);
        Check.due("about(11) with the window 1", y.about(11), 1);
        y.pass(1);
        Check.due("about(11) a tick later", y.about(11), 0);
        ImpactPlate z = Plates.keen(20, 4);
        z.drop(6, 30);
        z.pass(99);
        Check.due("about(11) long after", z.about(11), 0);
    }

    private static void closedByTimeOnce() {
        ImpactPlate x = Plates.keen(3, 4);
        x.drop(0, 30);
        x.pass(3);
        x.pass(1);
        x.drop(9, 30);
        Check.due("about(6) before the next ends", x.about(6), 1);
        x.pass(2);
        Check.due("about(6)", x.about(6), 1);
        x.pass(1);
        Check.due("about(6) when it ends", x.about(6), 2);
    }

    // (If the window is changed .. an open pulse stays open until the next drop falls or ticks go by.)
    private static void openWhenTheWindowIsChanged() {
        for (int way = 0; way < 3; way++) {
            ImpactPlate x = Plates.keen(9, 4);
            x.drop(5, 30);
            x.pass(5);
            x.set(1, 5);
            Check.due("about(11)", x.about(11), 1);
            Check.due("pulse(0)", x.pulse(0), 5);
            Check.due("about(6)", x.about(6), 0);
            if (way == 0) {
                x.pass(1);
                Check.due("about(11) a tick later", x.about(11), 0);
            } else if (way == 1) {
                Check.due("a drop at once is not merged", x.drop(0, 60), 0);
                Check.due("pulse(2)", x.pulse(2), 1);
            } else {
                x.set(1, 6);
                Check.due("a drop at once is merged when the window is 6 again", x.drop(0, 60), 1);
            }
            Check.due("about(6) then", x.about(6), way < 2 ? 1 : 0);
        }
    }

    // (If the window .. is 0, an open pulse stays open until the next drop falls or ticks go by.)
    private static void openWithTheWindow0() {
        ImpactPlate x = Plates.keen(0, 4);
        x.drop(5, 30);
        Check.due("about(11)", x.about(11), 1);
        Check.due("pulse(0)", x.pulse(0), 0);
        Check.due("about(6)", x.about(6), 0);
        x.pass(1);
        Check.due("about(11) a tick later", x.about(11), 0);
        Check.due("about(6) a tick later", x.about(6), 1);
        ImpactPlate y = Plates.keen(0, 4);
        y.drop(5, 30);
        y.drop(0, 30);
        Check.due("about(6) after the next drop", y.about(6), 1);
        Check.due("pulse(2)", y.pulse(2), 1);
    }

    private static void longerWindowKeepsItOpen() {
        ImpactPlate x = Plates.keen(3, 4);
        x.drop(5, 30);
        x.pass(2);
        x.set(1, 20);
        x.pass(17);
        Check.due("about(11) 19 ticks later", x.about(11), 1);
        x.pass(1);
        Check.due("about(11) 20 ticks later", x.about(11), 0);
    }

    // Fates are told by numbers: 0 counted, 1 merged, 2 hidden, 3 faint.
    private static void fatesByNumbers() {
        ImpactPlate x = new ImpactPlate();
        int[][] rows = {{5, 50, 0}, {2, 1, 1}, {1, 49, 2}, {0, 4, 3}};
        for (int[] row : rows) {
            Check.due("wouldBe", x.wouldBe(row[0], row[1]), row[2]);
            Check.due("drop", x.drop(row[0], row[1]), row[2]);
            Check.due("fate(0)", x.fate(0), row[2]);
            Check.due("longest", x.longest(row[2]), 1);
            Check.due("pattern", x.pattern(1, row[2]), 1);
            Check.due("about", x.about(2 + row[2]), 1);
            Check.due("replay", x.replay(3, 4, row[2]), 1);
        }
    }
}
