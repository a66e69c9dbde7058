/** Promises 6 to 14: about, setting, bin, pulse, fate, longest, pattern, rain, trueRain. */
public final class ReadingTest {
    public static void main(String[] args) {
        about();
        fullTraceAndRecord();
        setting();
        bin();
        pulse();
        fate();
        longest();
        pattern();
        patternRange();
        rain();
        trueRain();
        Check.finish();
    }

    private static void about() {
        ImpactPlate x = Plates.sevenDrops();
        int[] want = {11, 7, 2, 3, 1, 1, 1, 0, 3000, 7, 7, 1};
        for (int what = 0; what <= 11; what++) {
            Check.due("about(" + what + ")", x.about(what), want[what]);
        }
        x.pass(1);
        Check.due("about(6)", x.about(6), 2);
        Check.due("about(7)", x.about(7), 1);
        Check.due("about(11)", x.about(11), 0);
        x.pass(1);
        Check.due("about(8) one damping later", x.about(8), 1500);
        for (int what : new int[] {-1, 12, Integer.MIN_VALUE, Integer.MAX_VALUE}) {
            Check.dueThrow("about(" + what + ")", IllegalArgumentException.class, () -> x.about(what));
        }
        x.empty();
        Check.due("about(6) after empty()", x.about(6), 0);
        Check.due("about(7) after empty()", x.about(7), 0);
        Check.due("about(2) after empty()", x.about(2), 2);
    }

    private static void fullTraceAndRecord() {
        ImpactPlate x = new ImpactPlate();
        for (int i = 1; i <= 70; i++) {
            x.drop(0, 1);
            Check.due("about(9)", x.about(9), Math.min(i, 40));
            Check.due("about(10)", x.about(10), Math.min(i, 60));
            Check.due("about(1)", x.about(1), i);
        }
    }

    private static void setting() {
        ImpactPlate x = new ImpactPlate();
        x.set(0, 11);
        x.set(1, 12);
        x.set(2, 8);
        x.set(3, 14);
        x.set(4, 515);
        int[] want = {11, 12, 8, 14, 515};
        for (int what = 0; what <= 4; what++) {
            Check.due("setting(" + what + ")", x.setting(what), want[what]);
        }
        for (int what : new int[] {-1, 5, Integer.MIN_VALUE, Integer.MAX_VALUE}) {
            Check.dueThrow("setting(" + what + ")", IllegalArgumentException.class, () -> x.setting(what));
        }
    }

    private static void bin() {
        ImpactPlate x = Plates.sevenDrops();
        x.pass(9);
        int[][] want = {{0, 99, 0, 0, 0}, {100, 224, 0, 0, 0}, {225, 399, 0, 0, 0}, {400, 899, 0, 0, 0},
            {900, 1599, 0, 0, 0}, {1600, 2499, 0, 0, 0}, {2500, 3599, 2, 1, 5}, {3600, 5000, 0, 0, 0}};
        for (int k = 0; k <= 7; k++) {
            for (int what = 0; what <= 4; what++) {
                Check.due("bin(" + k + ", " + what + ")", x.bin(k, what), want[k][what]);
            }
        }
        for (int k : new int[] {-1, 8, Integer.MIN_VALUE, Integer.MAX_VALUE}) {
            Check.dueThrow("bin(" + k + ", 0)", IndexOutOfBoundsException.class, () -> x.bin(k, 0));
            Check.dueThrow("bin(" + k + ", 5)", IndexOutOfBoundsException.class, () -> x.bin(k, 5));
        }
        for (int what : new int[] {-1, 5, Integer.MIN_VALUE, Integer.MAX_VALUE}) {
            Check.dueThrow("bin(0, " + what + ")", IllegalArgumentException.class, () -> x.bin(0, what));
        }
        pulsesOnTheBorders();
    }

    private static void pulsesOnTheBorders() {
        ImpactPlate x = new ImpactPlate();
        x.set(1, 0);
        int[] sizes = {9, 10, 14, 15, 19, 20, 29, 30, 39, 40, 49, 50, 54};
        int[] bins = {0, 1, 1, 2, 2, 3, 3, 4, 4, 5, 5, 6, 6};
        for (int i = 0; i < sizes.length; i++) {
            x.drop(99, sizes[i]);
            x.pass(1);
            Check.due("the bin of a drop of " + sizes[i], x.bin(bins[i], 2), i % 2 == 0 && i > 0 ? 2 : 1);
        }
        x.set(4, 3600);
        x.drop(99, 60);
        x.pass(1);
        Check.due("bin(7, 2) with an amplitude of 3600", x.bin(7, 2), 1);
        Check.due("bin(7, 3): an amplitude of just the saturation is not saturated", x.bin(7, 3), 0);
        x.setBorder(7, 5000);
        Check.due("bin(7, 2) keeps its pulse", x.bin(7, 2), 1);
        Check.due("bin(7, 1)", x.bin(7, 1), 5000);
        Check.due("bin(6, 1)", x.bin(6, 1), 4999);
        x.setBorder(1, 1);
        Check.due("bin(0, 1)", x.bin(0, 1), 0);
    }

    private static void pulse() {
        ImpactPlate x = new ImpactPlate();
        x.set(1, 20);
        x.drop(4, 50);
        int[] one = {0, 2500, 1, 0};
        for (int what = 0; what <= 3; what++) {
            Check.due("pulse(" + what + ")", x.pulse(what), one[what]);
        }
        x.drop(3, 20);
        x.pass(2);
        int[] two = {5, 2900, 2, 0};
        for (int what = 0; what <= 3; what++) {
            Check.due("pulse(" + what + ")", x.pulse(what), two[what]);
        }
        x.drop(0, 11);
        int[] three = {5, 3000, 3, 1};
        for (int what = 0; what <= 3; what++) {
            Check.due("pulse(" + what + ")", x.pulse(what), three[what]);
        }
        for (int what : new int[] {-1, 4, Integer.MIN_VALUE, Integer.MAX_VALUE}) {
            Check.dueThrow("pulse(" + what + ")", IllegalArgumentException.class, () -> x.pulse(what));
        }
        x.pass(99);
        for (int what = 0; what <= 3; what++) {
            Check.due("pulse(" + what + ") of none", x.pulse(what), -9);
        }
        Check.dueThrow("pulse(4) of none", IllegalArgumentException.class, () -> x.pulse(4));
        x.drop(0, 20);
        Check.due("pulse(2) of the next", x.pulse(2), 1);
        Check.due("pulse(3) of the next", x.pulse(3), 0);
    }

    private static void fate() {
        ImpactPlate x = Plates.sevenDrops();
        int[] want = {1, 1, 0, 2, 3, 1, 0, -9, -9};
        for (int i = 0; i < want.length; i++) {
            Check.due("fate(" + i + ")", x.fate(i), want[i]);
        }
        Check.due("fate of far away", x.fate(Integer.MAX_VALUE), -9);
        for (int i : new int[] {-1, Integer.MIN_VALUE}) {
            Check.dueThrow("fate(" + i + ")", IllegalArgumentException.class, () -> x.fate(i));
        }
        ImpactPlate y = new ImpactPlate();
        y.drop(0, 9);
        for (int i = 0; i < 59; i++) {
            y.drop(3, 1);
        }
        Check.due("fate(59) of 60 drops", y.fate(59), 0);
        Check.due("fate(60) of 60 drops", y.fate(60), -9);
        y.drop(0, 1);
        Check.due("fate(59) of 61 drops", y.fate(59), 3);
        Check.due("fate(60) of 61 drops", y.fate(60), -9);
    }

    private static void longest() {
        ImpactPlate x = Plates.sevenDrops();
        int[] want = {1, 2, 1, 1};
        for (int fate = 0; fate <= 3; fate++) {
            Check.due("longest(" + fate + ")", x.longest(fate), want[fate]);
        }
        for (int fate : new int[] {-1, 4, Integer.MIN_VALUE, Integer.MAX_VALUE}) {
            Check.dueThrow("longest(" + fate + ")", IllegalArgumentException.class, () -> x.longest(fate));
        }
        ImpactPlate y = new ImpactPlate();
        for (int i = 0; i < 3; i++) {
            y.drop(0, 1);
        }
        y.drop(0, 10);
        y.drop(3, 1);
        Check.due("longest(3): an earlier run", y.longest(3), 3);
        for (int i = 0; i < 80; i++) {
            y.drop(0, 1);
        }
        Check.due("longest(3) of a full trace", y.longest(3), 60);
        Check.due("longest(0): forgotten", y.longest(0), 0);
    }

    private static void pattern() {
        ImpactPlate x = Plates.sevenDrops();
        int[][] want = {{1, 0, 2}, {1, 1, 3}, {1, 2, 1}, {1, 3, 1}, {2, 1, 2}, {2, 11, 1}, {2, 10, 0}, {2, 13, 1},
            {2, 31, 0}, {3, 132, 1}, {3, 11, 1}, {7, 132011, 1}, {8, 132011, 0}, {7, 132010, 0}, {4, 132, 1}};
        for (int[] row : want) {
            Check.due("pattern(" + row[0] + ", " + row[1] + ")", x.pattern(row[0], row[1]), row[2]);
        }
        ImpactPlate y = new ImpactPlate();
        for (int i = 0; i < 8; i++) {
            y.drop(0, 1);
        }
        Check.due("pattern(8, 33333333)", y.pattern(8, 33333333), 1);
        for (int i = 0; i < 70; i++) {
            y.drop(0, 1);
        }
        Check.due("pattern(8, 33333333): places overlap", y.pattern(8, 33333333), 53);
        Check.due("pattern(1, 3)", y.pattern(1, 3), 60);
    }

    private static void patternRange() {
        ImpactPlate x = Plates.sevenDrops();
        int[][] wrong = {{0, 0}, {9, 0}, {-1, 0}, {Integer.MIN_VALUE, 0}, {Integer.MAX_VALUE, 0}, {1, -1}, {1, 4},
            {1, 10}, {2, 40}, {2, 4}, {2, 100}, {2, -11}, {8, 100000000}, {8, 4}, {8, 40000000}, {8, 33333334},
            {8, Integer.MAX_VALUE}, {8, Integer.MIN_VALUE}, {3, 1011}};
        for (int[] row : wrong) {
            Check.dueThrow("pattern(" + row[0] + ", " + row[1] + ")", IllegalArgumentException.class,
                    () -> x.pattern(row[0], row[1]));
        }
    }

    private static void rain() {
        ImpactPlate x = new ImpactPlate();
        x.set(1, 0);
        int[] sizes = {9, 12, 17, 25, 35, 45, 52, 52};
        for (int size : sizes) {
            x.drop(99, size);
        }
        Check.due("rain(0) but for the open pulse", x.rain(0), 1000 + 3375 + 8000 + 27000 + 64000 + 125000);
        x.pass(1);
        // the ends' roots: 0 10 15 20 30 40 50; 49 162 312 649 1249 2049 3049 give 7 12 17 25 35 45 55
        Check.due("rain(0)", x.rain(0), 1000 + 3375 + 8000 + 27000 + 64000 + 2 * 125000);
        Check.due("rain(1)", x.rain(1), 343 + 1728 + 4913 + 15625 + 42875 + 91125 + 2 * 166375);
        Check.due("rain(2)", x.rain(2), 729 + 2744 + 6859 + 24389 + 59319 + 117649 + 2 * 205379);
        x.setBorder(7, 2602);
        Check.due("rain(2) by the ends as they are now", x.rain(2), 211689 + 2 * 132651);
        x.setBorder(6, 2499);
        Check.due("rain(0) by the ends as they are now", x.rain(0), 103375 + 2 * 117649);
        for (int law : new int[] {-1, 3, Integer.MIN_VALUE, Integer.MAX_VALUE}) {
            Check.dueThrow("rain(" + law + ")", IllegalArgumentException.class, () -> x.rain(law));
        }
        ImpactPlate y = new ImpactPlate();
        y.set(4, 5000);
        y.set(1, 1);
        y.drop(0, 60);
        y.drop(0, 60);
        y.pass(1);
        Check.due("rain(0) of 3600", y.rain(0), 216000);
        Check.due("rain(1) of 4300", y.rain(1), 65 * 65 * 65);
        Check.due("rain(2) of 5000", y.rain(2), 343000);
        int[][] roots = {{4095, 63}, {4096, 64}, {4224, 64}, {4225, 65}, {4899, 69}, {4900, 70}};
        for (int[] row : roots) {
            y.setBorder(7, row[0]);
            Check.due("rain(0) of " + row[0], y.rain(0), (long) row[1] * row[1] * row[1]);
        }
        y.setBorder(7, 5000);
        Check.due("rain(0) of 5000", y.rain(0), 343000);
    }

    private static void trueRain() {
        ImpactPlate x = Plates.sevenDrops();
        Check.due("trueRain()", x.trueRain(), 125000 + 8 + 27 + 117649 + 64000 + 64000 + 216000);
        x.empty();
        Check.due("trueRain() after empty()", x.trueRain(), 586684);
        for (int i = 0; i < 100; i++) {
            x.drop(0, 60);
        }
        Check.due("trueRain() of more drops than the record has", x.trueRain(), 586684 + 21600000L);
    }
}
