/** "THE PLATE" of the document: each sentence that names a boundary, with a test of its own. */
public final class PlateEdgeTest {
    public static void main(String[] args) {
        timeFromZero();
        sizeFrom1To60();
        firstSettings();
        tiltFrom0To40();
        windowFrom0To20();
        windowAtFirst3();
        dampingFrom1To9();
        dampingAtFirst4();
        noiseFrom1To200();
        noiseAtFirst20();
        saturationFrom500To5000();
        saturationAtFirst3000();
        strengthRoundedDown();
        notRingingAtFirst();
        halvedByWholeDampings();
        eachHalvingRoundedDown();
        levelWithTheSettingsOfNow();
        Check.finish();
    }

    // Time is told in ticks, from 0.
    private static void timeFromZero() {
        ImpactPlate x = new ImpactPlate();
        Check.due("about(0) at first", x.about(0), 0);
        x.drop(0, 30);
        Check.due("about(0) after a drop at once", x.about(0), 0);
        x.pass(1);
        Check.due("about(0) a tick later", x.about(0), 1);
        x.drop(99, 30);
        x.pass(99);
        Check.due("about(0) after the longest waits", x.about(0), 199);
    }

    // A drop has a size from 1 to 60 tenths of a millimeter.
    private static void sizeFrom1To60() {
        ImpactPlate x = Plates.keen(3, 4);
        x.drop(0, 1);
        Check.due("pulse(1) of the smallest drop", x.pulse(1), 1);
        Check.due("trueRain() of the smallest drop", x.trueRain(), 1);
        ImpactPlate y = Plates.keen(3, 4);
        y.drop(0, 60);
        Check.due("pulse(1) of the greatest drop", y.pulse(1), 3600);
        Check.due("trueRain() of the greatest drop", y.trueRain(), 216000);
    }

    private static void firstSettings() {
        ImpactPlate x = new ImpactPlate();
        int[] first = {0, 3, 4, 20, 3000};
        for (int what = 0; what <= 4; what++) {
            Check.due("setting(" + what + ") at first", x.setting(what), first[what]);
        }
    }

    // 0: its tilt, 0 to 40, at first 0
    private static void tiltFrom0To40() {
        int[][] strengths = {{0, 2500}, {1, 2450}, {39, 550}, {40, 500}};
        for (int[] row : strengths) {
            ImpactPlate x = new ImpactPlate();
            x.set(0, row[0]);
            x.drop(0, 50);
            Check.due("pulse(1) with the tilt " + row[0], x.pulse(1), row[1]);
        }
        ImpactPlate first = new ImpactPlate();
        first.drop(0, 50);
        Check.due("pulse(1) with the tilt that is at first", first.pulse(1), 2500);
    }

    // 1: the window, 0 to 20 ticks
    private static void windowFrom0To20() {
        for (int window = 1; window <= 20; window++) {
            ImpactPlate x = Plates.keen(window, 9);
            x.drop(7, 30);
            Check.due("a drop in the last tick of the window " + window, x.drop(window - 1, 30), 1);
            ImpactPlate y = Plates.keen(window, 9);
            y.drop(7, 30);
            Check.due("a drop behind the window " + window, y.drop(window, 30), 0);
        }
        ImpactPlate z = Plates.keen(0, 9);
        z.drop(7, 30);
        Check.due("a drop in the same tick with the window 0", z.drop(0, 30), 0);
    }

    private static void windowAtFirst3() {
        ImpactPlate x = new ImpactPlate();
        x.drop(0, 30);
        Check.due("a drop 2 ticks later", x.drop(2, 1), 1);
        ImpactPlate y = new ImpactPlate();
        y.drop(0, 30);
        Check.due("a drop 3 ticks later", y.drop(3, 1), 3);
    }

    // 2: the damping, 1 to 9 ticks
    private static void dampingFrom1To9() {
        for (int damping = 1; damping <= 9; damping++) {
            ImpactPlate x = Plates.struck(1000, damping);
            int level = 1000;
            for (int halving = 1; halving <= 11; halving++) {
                if (damping > 1) {
                    Check.due("the level before the halving " + halving, x.pass(damping - 1), level);
                }
                level = level / 2;
                Check.due("the level at the halving " + halving + " with the damping " + damping, x.pass(1), level);
            }
        }
    }

    private static void dampingAtFirst4() {
        ImpactPlate x = new ImpactPlate();
        x.drop(0, 30);
        Check.due("the level 3 ticks later", x.pass(3), 900);
        Check.due("the level 4 ticks later", x.pass(1), 450);
    }

    // 3: the noise, 1 to 200
    private static void noiseFrom1To200() {
        ImpactPlate x = new ImpactPlate();
        x.set(3, 1);
        Check.due("a strength of 1 with the noise 1", x.drop(0, 1), 0);
        ImpactPlate y = new ImpactPlate();
        y.set(3, 1);
        y.set(0, 1);
        Check.due("a strength of 0 with the noise 1", y.drop(0, 1), 3);
        ImpactPlate z = new ImpactPlate();
        z.set(3, 200);
        z.set(0, 11);
        Check.due("256 * 78 / 100 = 199 with the noise 200", z.drop(0, 16), 3);
        z.set(0, 25);
        Check.due("400 * 50 / 100 = 200 with the noise 200", z.drop(0, 20), 0);
    }

    private static void noiseAtFirst20() {
        ImpactPlate x = new ImpactPlate();
        x.set(0, 11);
        Check.due("25 * 78 / 100 = 19", x.drop(0, 5), 3);
        x.set(0, 10);
        Check.due("25 * 80 / 100 = 20", x.drop(0, 5), 0);
    }

    // 4: the saturation, 500 to 5000
    private static void saturationFrom500To5000() {
        for (int saturation : new int[] {500, 5000}) {
            ImpactPlate x = Plates.keen(1, 4);
            x.set(4, saturation);
            Plates.strike(x, saturation);
            Check.due("pulse(1) of just the saturation " + saturation, x.pulse(1), saturation);
            Check.due("pulse(3) of just the saturation " + saturation, x.pulse(3), 0);
            x.drop(0, 1);
            Check.due("pulse(1) of one more", x.pulse(1), saturation);
            Check.due("pulse(3) of one more", x.pulse(3), 1);
        }
    }

    private static void saturationAtFirst3000() {
        ImpactPlate x = new ImpactPlate();
        Plates.strike(x, 3000);
        Check.due("pulse(1) of 3000", x.pulse(1), 3000);
        Check.due("pulse(3) of 3000", x.pulse(3), 0);
        x.drop(0, 1);
        Check.due("pulse(1) of 3001", x.pulse(1), 3000);
        Check.due("pulse(3) of 3001", x.pulse(3), 1);
    }

    // The strength of a drop of the size d is d * d * (100 - 2 * tilt) / 100, rounded down.
    private static void strengthRoundedDown() {
        // 1.8, 17.82, 48.02, 2450, 3528, 3411.38, 3.92, 217.8, 720
        int[][] rows = {{3, 40, 1}, {9, 39, 17}, {7, 1, 48}, {50, 1, 2450}, {60, 1, 3528}, {59, 1, 3411},
            {2, 1, 3}, {33, 40, 217}, {60, 40, 720}};
        for (int[] row : rows) {
            ImpactPlate x = Plates.keen(3, 4);
            x.set(0, row[1]);
            x.drop(0, row[0]);
            Check.due("the strength of " + row[0] + " with the tilt " + row[1], x.pulse(1), row[2]);
        }
    }

    // The plate rings or not (at first not). If it does not ring, its level is 0.
    private static void notRingingAtFirst() {
        ImpactPlate x = new ImpactPlate();
        Check.due("about(8) at first", x.about(8), 0);
        Check.due("pass(99)", x.pass(99), 0);
        Check.due("a faint drop", x.drop(0, 4), 3);
        Check.due("about(8) after a faint drop", x.about(8), 0);
        Check.due("quietIn(0) after a faint drop", x.quietIn(0), 0);
    }

    // A, divided by 2 .. as often as whole dampings have gone by since T: (t - T) / damping times, rounded down.
    private static void halvedByWholeDampings() {
        ImpactPlate x = new ImpactPlate();
        x.drop(6, 40);
        int[][] rows = {{1, 1600}, {2, 1600}, {1, 800}, {3, 800}, {1, 400}, {3, 400}, {1, 200}};
        for (int[] row : rows) {
            Check.due("the level", x.pass(row[0]), row[1]);
        }
        x.set(2, 5);
        Check.due("the level 12 ticks later with the damping 5", x.about(8), 400);
        x.set(2, 6);
        Check.due("the level 12 ticks later with the damping 6", x.about(8), 400);
        x.set(2, 7);
        Check.due("the level 12 ticks later with the damping 7", x.about(8), 800);
    }

    private static void eachHalvingRoundedDown() {
        int[] levels = {4999, 2499, 1249, 624, 312, 156, 78, 39, 19, 9, 4, 2, 1, 0, 0};
        ImpactPlate x = Plates.struck(4999, 1);
        Check.due("about(8)", x.about(8), levels[0]);
        for (int i = 1; i < levels.length; i++) {
            Check.due("about(8) after " + i + " halvings", x.pass(1), levels[i]);
        }
        ImpactPlate y = Plates.struck(5000, 1);
        Check.due("5000 after 12 halvings", y.pass(12), 1);
        Check.due("5000 after 13 halvings", y.pass(1), 0);
        for (int i = 0; i < 20; i++) {
            Check.due("5000 long after", y.pass(1), 0);
        }
        Check.due("5000 very long after", y.pass(99), 0);
    }

    // The damping and the other settings are always those that it has now.
    private static void levelWithTheSettingsOfNow() {
        ImpactPlate x = Plates.struck(1000, 9);
        Check.due("the level 8 ticks later", x.pass(8), 1000);
        x.set(2, 8);
        Check.due("the level with the damping 8", x.about(8), 500);
        x.set(2, 4);
        Check.due("the level with the damping 4", x.about(8), 250);
        x.set(2, 9);
        Check.due("the level with the damping 9 again", x.about(8), 1000);
        x.set(0, 40);
        x.set(4, 500);
        Check.due("the tilt and the saturation leave what rings", x.about(8), 1000);
        Check.due("a drop with the strength 720", x.wouldBe(1, 60), 0);
        Check.due("a drop with the strength 696", x.wouldBe(0, 59), 2);
    }
}
