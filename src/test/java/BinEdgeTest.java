/** "BINS" of the document, and empty(): each sentence that names a boundary, with a test of its own. */
public final class BinEdgeTest {
    private static final int[] FIRST_BORDERS = {0, 100, 225, 400, 900, 1600, 2500, 3600};

    public static void main(String[] args) {
        bordersAtFirst();
        endsOfEachBin();
        endsOfBin0And7();
        binOfABorder();
        binOfTheSmallestAndGreatest();
        binOfAMovedBorder();
        binByTheBordersWhenItCloses();
        closedPulsesStay();
        numbersOfABin();
        rainByTheLowerEnd();
        rainByTheMiddle();
        rainByTheUpperEnd();
        rainOfBin0And7();
        rainOfClosedPulsesAlone();
        rainByTheEndsOfNow();
        trueRainOfAllDrops();
        emptyOfNothing();
        emptyKeepsTheRest();
        Check.finish();
    }

    /** A closed pulse of this amplitude, and nothing else. */
    private static ImpactPlate closed(int amplitude) {
        ImpactPlate x = Plates.struck(amplitude, 4);
        x.pass(99);
        return x;
    }

    /** A closed pulse in the bin 1, which then goes from least to greatest (all other borders lie above it). */
    private static ImpactPlate closedInBin1(int least, int greatest) {
        ImpactPlate x = closed(100);
        for (int k = 7; k >= 2; k--) {
            x.setBorder(k, 4993 + k);
        }
        x.setBorder(1, least);
        x.setBorder(2, greatest + 1);
        return x;
    }

    private static void bordersAtFirst() {
        ImpactPlate x = new ImpactPlate();
        for (int k = 1; k <= 7; k++) {
            Check.due("setBorder(" + k + ", ..) answers the border", x.setBorder(k, FIRST_BORDERS[k]),
                    FIRST_BORDERS[k]);
        }
    }

    // The lower end of the bin k is its border (0 for the bin 0), the upper end is the border k + 1 less 1
    private static void endsOfEachBin() {
        ImpactPlate x = new ImpactPlate();
        x.setBorder(3, 500);
        Check.due("bin(3, 0)", x.bin(3, 0), 500);
        Check.due("bin(2, 1)", x.bin(2, 1), 499);
        Check.due("bin(2, 0)", x.bin(2, 0), 225);
        Check.due("bin(3, 1)", x.bin(3, 1), 899);
    }

    // (0 for the bin 0) .. (5000 for the bin 7)
    private static void endsOfBin0And7() {
        ImpactPlate x = new ImpactPlate();
        x.setBorder(1, 1);
        Check.due("bin(0, 0)", x.bin(0, 0), 0);
        Check.due("bin(0, 1)", x.bin(0, 1), 0);
        Check.due("bin(1, 0)", x.bin(1, 0), 1);
        x.setBorder(7, 5000);
        Check.due("bin(6, 1)", x.bin(6, 1), 4999);
        Check.due("bin(7, 0)", x.bin(7, 0), 5000);
        Check.due("bin(7, 1)", x.bin(7, 1), 5000);
        x.set(4, 500);
        Check.due("bin(7, 1) is no saturation", x.bin(7, 1), 5000);
    }

    // A closed pulse is in the bin k with the greatest border k that is at most its amplitude
    private static void binOfABorder() {
        for (int k = 1; k <= 7; k++) {
            for (int below = 0; below <= 1; below++) {
                ImpactPlate x = closed(FIRST_BORDERS[k] - below);
                for (int bin = 0; bin <= 7; bin++) {
                    Check.due("bin(" + bin + ", 2) with a pulse of " + (FIRST_BORDERS[k] - below), x.bin(bin, 2),
                            bin == k - below ? 1 : 0);
                }
            }
        }
    }

    // in the bin 0 if there is none
    private static void binOfTheSmallestAndGreatest() {
        Check.due("bin(0, 2) with a pulse of 1", closed(1).bin(0, 2), 1);
        Check.due("bin(0, 2) with a pulse of 99", closed(99).bin(0, 2), 1);
        Check.due("bin(7, 2) with a pulse of 5000", closed(5000).bin(7, 2), 1);
    }

    private static void binOfAMovedBorder() {
        int[][] rows = {{1, 1, 1}, {1, 2, 0}, {5000, 5000, 7}, {4999, 5000, 6}};
        for (int[] row : rows) {
            ImpactPlate x = Plates.keen(1, 4);
            x.setBorder(row[1] < 100 ? 1 : 7, row[1]);
            Plates.strike(x, row[0]);
            x.pass(1);
            Check.due("bin(" + row[2] + ", 2) with a pulse of " + row[0], x.bin(row[2], 2), 1);
        }
    }

    private static void binByTheBordersWhenItCloses() {
        ImpactPlate x = Plates.keen(3, 4);
        x.drop(0, 30);
        x.setBorder(4, 901);
        x.pass(3);
        x.setBorder(4, 900);
        Check.due("bin(3, 2)", x.bin(3, 2), 1);
        Check.due("bin(4, 2)", x.bin(4, 2), 0);
    }

    // changing a border does not move pulses that are closed already
    private static void closedPulsesStay() {
        ImpactPlate x = closed(900);
        x.setBorder(4, 901);
        Check.due("bin(4, 2)", x.bin(4, 2), 1);
        Check.due("bin(3, 2)", x.bin(3, 2), 0);
        ImpactPlate y = closed(899);
        y.setBorder(4, 899);
        Check.due("bin(3, 2)", y.bin(3, 2), 1);
        Check.due("bin(4, 2)", y.bin(4, 2), 0);
    }

    private static void numbersOfABin() {
        ImpactPlate x = Plates.keen(1, 4);
        x.set(4, 500);
        Plates.strike(x, 500);
        x.pass(99);
        Check.due("bin(3, 3) of just the saturation", x.bin(3, 3), 0);
        Check.due("about(7)", x.about(7), 0);
        Check.due("bin(3, 4): 484 and 16", x.bin(3, 4), 2);
        Plates.strike(x, 501);
        Check.due("bin(3, 4) without the open pulse", x.bin(3, 4), 2);
        x.pass(1);
        Check.due("bin(3, 3) of one more", x.bin(3, 3), 1);
        Check.due("about(7)", x.about(7), 1);
        Check.due("bin(3, 4): 484, 16 and 1", x.bin(3, 4), 5);
        Check.due("bin(3, 2)", x.bin(3, 2), 2);
    }

    private static long cube(long s) {
        return s * s * s;
    }

    // with the law 0 the greatest whole number whose square is at most the lower end of its bin
    private static void rainByTheLowerEnd() {
        for (int s = 2; s <= 70; s++) {
            ImpactPlate x = closedInBin1(s * s - 1, 4900);
            Check.due("rain(0) of " + (s * s - 1), x.rain(0), cube(s - 1));
            x.setBorder(1, s * s);
            Check.due("rain(0) of " + s * s, x.rain(0), cube(s));
        }
    }

    // with the law 1 the one for (lower end + upper end) / 2, rounded down
    private static void rainByTheMiddle() {
        for (int s = 2; s <= 49; s++) {
            ImpactPlate x = closedInBin1(1, 2 * s * s - 2);
            Check.due("rain(1) of (1 + " + (2 * s * s - 2) + ") / 2", x.rain(1), cube(s - 1));
            x.setBorder(2, 2 * s * s);
            Check.due("rain(1) of (1 + " + (2 * s * s - 1) + ") / 2", x.rain(1), cube(s));
        }
    }

    // with the law 2 the one for the upper end
    private static void rainByTheUpperEnd() {
        for (int s = 2; s <= 70; s++) {
            ImpactPlate x = closedInBin1(1, s * s - 1);
            Check.due("rain(2) of " + (s * s - 1), x.rain(2), cube(s - 1));
            x.setBorder(2, s * s + 1);
            Check.due("rain(2) of " + s * s, x.rain(2), cube(s));
        }
    }

    private static void rainOfBin0And7() {
        ImpactPlate x = closed(1);
        Check.due("rain(0) of 0", x.rain(0), 0);
        Check.due("rain(1) of 49", x.rain(1), 343);
        Check.due("rain(2) of 99", x.rain(2), 729);
        x.setBorder(1, 1);
        for (int law = 0; law <= 2; law++) {
            Check.due("rain of 0 to 0", x.rain(law), 0);
        }
        ImpactPlate y = closed(5000);
        Check.due("rain(0) of 3600", y.rain(0), 216000);
        Check.due("rain(1) of 4300", y.rain(1), 274625);
        Check.due("rain(2) of 5000", y.rain(2), 343000);
        y.setBorder(7, 5000);
        for (int law = 0; law <= 2; law++) {
            Check.due("rain of 5000 to 5000", y.rain(law), 343000);
        }
    }

    // the sum, over all closed pulses
    private static void rainOfClosedPulsesAlone() {
        ImpactPlate x = Plates.keen(2, 4);
        x.drop(0, 30);
        Check.due("rain(0) of an open pulse", x.rain(0), 0);
        x.pass(1);
        Check.due("rain(0) before the window ends", x.rain(0), 0);
        x.pass(1);
        Check.due("rain(0) of a closed pulse", x.rain(0), 27000);
        x.drop(99, 30);
        x.drop(99, 10);
        x.pass(2);
        Check.due("rain(0) of three closed pulses", x.rain(0), 55000);
    }

    // by its ends as they are now
    private static void rainByTheEndsOfNow() {
        ImpactPlate x = closed(900);
        Check.due("rain(0)", x.rain(0), 27000);
        x.setBorder(4, 961);
        Check.due("rain(0) with a higher border", x.rain(0), 29791);
        x.setBorder(4, 841);
        Check.due("rain(0) with a lower border", x.rain(0), 24389);
        x.setBorder(5, 1370);
        Check.due("rain(2)", x.rain(2), 50653);
    }

    // The true rain is the sum of d * d * d of all drops.
    private static void trueRainOfAllDrops() {
        ImpactPlate x = new ImpactPlate();
        Check.due("trueRain() of no drop", x.trueRain(), 0);
        x.drop(5, 50);
        Check.due("trueRain() of a counted drop", x.trueRain(), 125000);
        x.drop(2, 7);
        Check.due("trueRain() of a merged drop", x.trueRain(), 125343);
        x.drop(1, 40);
        Check.due("trueRain() of a hidden drop", x.trueRain(), 189343);
        x.drop(0, 1);
        Check.due("trueRain() of a faint drop", x.trueRain(), 189344);
        ImpactPlate y = new ImpactPlate();
        for (int i = 0; i < 300; i++) {
            y.drop(i % 2, 60);
        }
        Check.due("trueRain() of far more drops than are kept", y.trueRain(), 64800000L);
    }

    private static void emptyOfNothing() {
        ImpactPlate x = new ImpactPlate();
        Check.due("empty() at first", x.empty(), 0);
        x.drop(0, 30);
        Check.due("empty() with an open pulse alone", x.empty(), 0);
        x.pass(3);
        Check.due("empty() with a closed pulse", x.empty(), 1);
        Check.due("empty() again", x.empty(), 0);
    }

    // (their pulses are forgotten, the numbers of drops and the true rain are not)
    private static void emptyKeepsTheRest() {
        ImpactPlate x = Plates.sevenDrops();
        String trueRain = Long.toString(x.trueRain());
        Check.due("empty()", x.empty(), 1);
        int[] want = {11, 7, 2, 3, 1, 1, 0, 0, 3000, 7, 7, 1};
        for (int what = 0; what <= 11; what++) {
            Check.due("about(" + what + ")", x.about(what), want[what]);
        }
        Check.due("trueRain()", Long.toString(x.trueRain()), trueRain);
        Check.due("pulse(2)", x.pulse(2), 3);
        Check.due("bin(6, 2)", x.bin(6, 2), 0);
        Check.due("bin(6, 4)", x.bin(6, 4), 0);
        x.pass(1);
        Check.due("bin(6, 2) when the open pulse is closed", x.bin(6, 2), 1);
        Check.due("bin(6, 3)", x.bin(6, 3), 1);
        Check.due("bin(6, 4)", x.bin(6, 4), 3);
    }
}
