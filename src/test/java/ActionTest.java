/** Promises 15 to 20: drop, pass, set, setBorder, empty, undo. */
public final class ActionTest {
    public static void main(String[] args) {
        dropFates();
        dropRinging();
        dropSaturation();
        dropTilted();
        dropRange();
        pass();
        set();
        setBorder();
        empty();
        undo();
        undoOfEach();
        undoOfThrowing();
        Check.finish();
    }

    private static void dropFates() {
        ImpactPlate x = new ImpactPlate();
        Check.due("a drop of 16 with the noise 20", x.drop(0, 4), 3);
        x.set(3, 25);
        Check.due("a drop of just the noise", x.drop(0, 5), 0);
        Check.due("a faint drop is merged", x.drop(2, 1), 1);
        Check.due("pulse(1)", x.pulse(1), 26);
        Check.due("pulse(0): T stays", x.pulse(0), 2);
        Check.due("a faint drop at the window's end", x.drop(1, 1), 3);
        Check.due("it closes the pulse", x.about(6), 1);
        Check.due("no pulse is open", x.about(11), 0);
        Check.due("it does not ring", x.about(8), 26);
        Check.due("a drop of 25 below the level 26", x.drop(0, 5), 2);
        Check.due("the level after a hidden drop", x.about(8), 26);
        Check.due("a drop below the noise and the level is faint", x.drop(0, 4), 3);
        Check.due("a drop above the level", x.drop(0, 6), 0);
        Check.due("pulse(1): 36 and half of 26", x.pulse(1), 49);
        ImpactPlate y = new ImpactPlate();
        y.set(1, 0);
        Check.due("drop", y.drop(0, 10), 0);
        Check.due("a drop of just the level is counted", y.drop(0, 10), 0);
        Check.due("pulse(1)", y.pulse(1), 150);
        Check.due("a hidden drop closes the pulse", y.drop(0, 10), 2);
        Check.due("about(11)", y.about(11), 0);
        Check.due("about(6)", y.about(6), 2);
        Check.due("bin(1, 4)", y.bin(1, 4), 2);
    }

    private static void dropRinging() {
        ImpactPlate x = new ImpactPlate();
        x.drop(1, 41);
        Check.due("about(8) at once", x.about(8), 1681);
        int[] levels = {1681, 1681, 1681, 840, 840, 840, 840, 420};
        for (int level : levels) {
            x.pass(1);
            Check.due("about(8)", x.about(8), level);
        }
        x.set(2, 1);
        Check.due("about(8) with the damping 1", x.about(8), 1681 >> 8);
        x.set(2, 9);
        Check.due("about(8) with the damping 9", x.about(8), 1681);
        x.set(2, 8);
        Check.due("about(8) with the damping 8", x.about(8), 840);
        Check.due("drop", x.drop(8, 21), 0);
        Check.due("pulse(1): 441 and half of 420", x.pulse(1), 441 + 210);
        x.set(2, 1);
        x.pass(31);
        Check.due("about(8) after 31 dampings", x.about(8), 0);
        x.pass(1);
        Check.due("about(8) after 32 dampings", x.about(8), 0);
        x.pass(32);
        Check.due("about(8) after 64 dampings", x.about(8), 0);
    }

    private static void dropSaturation() {
        ImpactPlate x = new ImpactPlate();
        x.set(4, 500);
        x.drop(0, 20);
        x.drop(0, 10);
        Check.due("pulse(3): just the saturation", x.pulse(3), 0);
        Check.due("pulse(1)", x.pulse(1), 500);
        x.drop(0, 1);
        Check.due("pulse(3): one more", x.pulse(3), 1);
        Check.due("pulse(1)", x.pulse(1), 500);
        Check.due("pulse(2)", x.pulse(2), 3);
        x.set(4, 1000);
        x.drop(0, 1);
        Check.due("pulse(3) stays", x.pulse(3), 1);
        Check.due("pulse(1) grows on", x.pulse(1), 501);
        ImpactPlate y = new ImpactPlate();
        y.drop(0, 50);
        y.set(4, 600);
        Check.due("pulse(1) with a lower saturation", y.pulse(1), 2500);
        y.drop(0, 1);
        Check.due("pulse(1) falls to it", y.pulse(1), 600);
        Check.due("pulse(3)", y.pulse(3), 1);
        y.pass(3);
        Check.due("drop", y.drop(0, 30), 0);
        Check.due("pulse(1) of a pulse that opens saturated", y.pulse(1), 600);
        Check.due("pulse(3)", y.pulse(3), 1);
        y.pass(3);
        Check.due("about(7)", y.about(7), 2);
        Check.due("bin(3, 3)", y.bin(3, 3), 2);
        ImpactPlate z = new ImpactPlate();
        z.set(4, 600);
        z.set(1, 0);
        z.drop(0, 20);
        z.drop(0, 20);
        Check.due("pulse(1): 400 and half of 400", z.pulse(1), 600);
        Check.due("pulse(3): just the saturation", z.pulse(3), 0);
    }

    private static void dropTilted() {
        ImpactPlate x = new ImpactPlate();
        x.set(0, 40);
        x.drop(0, 33);
        Check.due("pulse(1): 1089 * 20 / 100", x.pulse(1), 217);
        x.set(0, 1);
        x.drop(0, 7);
        Check.due("pulse(1): and 49 * 98 / 100", x.pulse(1), 265);
        Check.due("trueRain() knows no tilt", x.trueRain(), 35937 + 343);
    }

    private static void dropRange() {
        ImpactPlate x = new ImpactPlate();
        x.drop(3, 30);
        int[][] wrong = {{-1, 30}, {100, 30}, {0, 0}, {0, 61}, {0, -1}, {-1, 0}, {Integer.MIN_VALUE, 1},
            {Integer.MAX_VALUE, 1}, {0, Integer.MIN_VALUE}, {0, Integer.MAX_VALUE}};
        for (int[] row : wrong) {
            Check.dueThrow("drop(" + row[0] + ", " + row[1] + ")", IllegalArgumentException.class,
                    () -> x.drop(row[0], row[1]));
        }
        x.set(3, 1);
        Check.due("drop(99, 1)", x.drop(99, 1), 0);
        Check.due("drop(0, 60)", x.drop(0, 60), 1);
        Check.due("about(0)", x.about(0), 102);
    }

    private static void pass() {
        ImpactPlate x = new ImpactPlate();
        Check.due("pass(99) on a quiet plate", x.pass(99), 0);
        x.drop(0, 30);
        Check.due("pass(2)", x.pass(2), 900);
        Check.due("about(11)", x.about(11), 1);
        Check.due("pass(1)", x.pass(1), 900);
        Check.due("about(11) at the window's end", x.about(11), 0);
        Check.due("bin(4, 2)", x.bin(4, 2), 1);
        Check.due("pass(1)", x.pass(1), 450);
        Check.due("pass(4)", x.pass(4), 225);
        Check.due("about(0)", x.about(0), 107);
        Check.due("about(6): closed once", x.about(6), 1);
        for (int ticks : new int[] {0, -1, 100, Integer.MIN_VALUE, Integer.MAX_VALUE}) {
            Check.dueThrow("pass(" + ticks + ")", IllegalArgumentException.class, () -> x.pass(ticks));
        }
        ImpactPlate y = new ImpactPlate();
        y.set(1, 0);
        y.drop(0, 30);
        Check.due("about(11): open with the window 0", y.about(11), 1);
        y.pass(1);
        Check.due("about(11): closed when a tick goes by", y.about(11), 0);
        y.set(1, 20);
        y.drop(9, 30);
        y.pass(10);
        y.set(1, 10);
        Check.due("about(11): a changed window closes nothing", y.about(11), 1);
        y.set(1, 20);
        y.pass(9);
        Check.due("about(11): the window counts that there is when ticks go by", y.about(11), 1);
        y.set(1, 3);
        Check.due("a drop at once, long behind the changed window", y.drop(0, 60), 0);
        Check.due("about(6)", y.about(6), 2);
    }

    private static void set() {
        ImpactPlate x = new ImpactPlate();
        int[] first = {0, 3, 4, 20, 3000};
        int[] least = {0, 0, 1, 1, 500};
        int[] greatest = {40, 20, 9, 200, 5000};
        for (int what = 0; what <= 4; what++) {
            int w = what;
            Check.due("set to the greatest", x.set(w, greatest[w]), first[w]);
            Check.due("set to the least", x.set(w, least[w]), greatest[w]);
            Check.due("setting", x.setting(w), least[w]);
            for (int v : new int[] {least[w] - 1, greatest[w] + 1, Integer.MIN_VALUE, Integer.MAX_VALUE}) {
                Check.dueThrow("set(" + w + ", " + v + ")", IllegalArgumentException.class, () -> x.set(w, v));
            }
        }
        for (int what : new int[] {-1, 5, Integer.MIN_VALUE, Integer.MAX_VALUE}) {
            Check.dueThrow("set(" + what + ", 5)", IllegalArgumentException.class, () -> x.set(what, 5));
        }
    }

    private static void setBorder() {
        ImpactPlate x = new ImpactPlate();
        int[] first = {0, 100, 225, 400, 900, 1600, 2500, 3600, 5001};
        for (int k = 1; k <= 7; k++) {
            int b = k;
            if (b > 1) {
                Check.dueThrow("setBorder to the one before", IllegalStateException.class,
                        () -> x.setBorder(b, first[b - 1]));
            }
            if (b < 7) {
                Check.dueThrow("setBorder to the one behind", IllegalStateException.class,
                        () -> x.setBorder(b, first[b + 1]));
            }
            Check.due("setBorder to just above the one before", x.setBorder(b, first[b - 1] + 1), first[b]);
            Check.due("setBorder to just below the one behind", x.setBorder(b, first[b + 1] - 1), first[b - 1] + 1);
            Check.due("setBorder as it was", x.setBorder(b, first[b]), first[b + 1] - 1);
            Check.dueThrow("setBorder(" + b + ", 0)", IllegalArgumentException.class, () -> x.setBorder(b, 0));
            Check.dueThrow("setBorder(" + b + ", 5001)", IllegalArgumentException.class,
                    () -> x.setBorder(b, 5001));
            Check.dueThrow("setBorder(" + b + ", -1)", IllegalArgumentException.class, () -> x.setBorder(b, -1));
        }
        for (int k : new int[] {0, 8, -1, Integer.MIN_VALUE, Integer.MAX_VALUE}) {
            Check.dueThrow("setBorder(" + k + ", 5)", IndexOutOfBoundsException.class, () -> x.setBorder(k, 5));
            Check.dueThrow("setBorder(" + k + ", 0)", IndexOutOfBoundsException.class, () -> x.setBorder(k, 0));
        }
        x.drop(0, 30);
        x.pass(5);
        x.setBorder(4, 901);
        Check.due("bin(4, 2): closed pulses stay", x.bin(4, 2), 1);
        x.drop(40, 30);
        x.pass(5);
        Check.due("bin(3, 2): the next is below the border", x.bin(3, 2), 1);
    }

    private static void empty() {
        ImpactPlate x = new ImpactPlate();
        Check.due("empty() of empty bins", x.empty(), 0);
        x.drop(0, 60);
        x.drop(50, 20);
        x.drop(99, 9);
        x.drop(50, 20);
        x.drop(0, 20);
        Check.due("empty()", x.empty(), 3);
        for (int k = 0; k <= 7; k++) {
            for (int what = 2; what <= 4; what++) {
                Check.due("bin(" + k + ", " + what + ")", x.bin(k, what), 0);
            }
        }
        Check.due("about(11): the open pulse stays", x.about(11), 1);
        Check.due("about(1)", x.about(1), 5);
        Check.due("about(2)", x.about(2), 4);
        Check.due("trueRain()", x.trueRain(), 216000 + 24000 + 729);
        Check.due("rain(2)", x.rain(2), 0);
        x.pass(9);
        Check.due("empty() of the last pulse", x.empty(), 1);
        Check.due("undo() of the last of nine actions", x.undo(), 8);
        Check.due("about(6) after undo()", x.about(6), 1);
    }

    private static void undo() {
        ImpactPlate x = new ImpactPlate();
        for (int i = 0; i < 20; i++) {
            x.pass(1);
        }
        for (int left = 13; left >= 0; left--) {
            Check.due("undo()", x.undo(), left);
            Check.due("about(0)", x.about(0), 6 + left);
        }
        Check.dueThrow("undo() of what is forgotten", IllegalStateException.class, x::undo);
        x.pass(3);
        Check.due("undo() again", x.undo(), 0);
        Check.due("about(0)", x.about(0), 6);
        for (int i = 0; i < 5; i++) {
            x.pass(1);
        }
        Check.due("undo()", x.undo(), 4);
        x.pass(10);
        Check.due("undo()", x.undo(), 4);
        Check.due("about(0)", x.about(0), 10);
        Check.due("undo()", x.undo(), 3);
        Check.due("about(0)", x.about(0), 9);
    }

    private static final int ACTIONS = 12;

    private static void act(ImpactPlate x, int i) {
        switch (i) {
            case 0: x.drop(1, 60); break;
            case 1: x.drop(0, 5); break;
            case 2: x.drop(20, 1); break;
            case 3: x.drop(0, 60); break;
            case 4: x.pass(50); break;
            case 5: x.set(2, 4); break;
            case 6: x.set(2, 7); break;
            case 7: x.set(4, 500); break;
            case 8: x.setBorder(3, 300); break;
            case 9: x.empty(); break;
            case 10: x.empty(); break;
            default: x.set(3, 200); break;
        }
    }

    private static ImpactPlate afterActions(int actions) {
        ImpactPlate x = new ImpactPlate();
        for (int i = 0; i < 65; i++) {
            x.drop(i % 7, 1 + i * 11 % 60);
        }
        for (int i = 0; i < actions; i++) {
            act(x, i);
        }
        return x;
    }

    private static void undoOfEach() {
        for (int left = 0; left < ACTIONS; left++) {
            ImpactPlate x = afterActions(ACTIONS);
            for (int i = ACTIONS - 1; i >= left; i--) {
                Check.due("undo() counts each action", x.undo(), i + 2);
            }
            Check.due("all there is after undo()", Look.at(x), Look.at(afterActions(left)));
        }
    }

    private static void undoOfThrowing() {
        ImpactPlate x = new ImpactPlate();
        x.pass(5);
        Check.dueThrow("drop(0, 61)", IllegalArgumentException.class, () -> x.drop(0, 61));
        Check.dueThrow("pass(0)", IllegalArgumentException.class, () -> x.pass(0));
        Check.dueThrow("set(0, 41)", IllegalArgumentException.class, () -> x.set(0, 41));
        Check.dueThrow("setBorder(0, 1)", IndexOutOfBoundsException.class, () -> x.setBorder(0, 1));
        Check.dueThrow("setBorder(1, 0)", IllegalArgumentException.class, () -> x.setBorder(1, 0));
        Check.dueThrow("setBorder(1, 300)", IllegalStateException.class, () -> x.setBorder(1, 300));
        x.wouldBe(0, 9);
        x.runScript(1, 10010);
        x.simulate(1, 9);
        x.bestWindow(0);
        x.save(0);
        Check.due("undo(): only pass(5) was an action", x.undo(), 0);
        Check.due("about(0)", x.about(0), 0);
    }
}
