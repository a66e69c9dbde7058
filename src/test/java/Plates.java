/** Plates that several tests begin with, each a new object that few calls have been spent on. */
final class Plates {
    interface Recipe {
        ImpactPlate make();
    }

    private Plates() {
    }

    static ImpactPlate withText(String text) {
        ImpactPlate x = new ImpactPlate();
        write(x, text);
        return x;
    }

    static void write(ImpactPlate x, String text) {
        for (char c : text.toCharArray()) {
            x.append(c);
        }
    }

    /** A plate with this window and damping that nothing is too faint for, and nothing too strong. */
    static ImpactPlate keen(int window, int damping) {
        ImpactPlate x = new ImpactPlate();
        x.set(1, window);
        x.set(2, damping);
        x.set(3, 1);
        x.set(4, 5000);
        return x;
    }

    /** Lets drops fall in one tick whose strengths make up the amplitude: one pulse, if nothing rings. */
    static void strike(ImpactPlate x, int amplitude) {
        int rest = amplitude;
        while (rest > 0) {
            int size = Math.min(60, (int) Math.sqrt(rest));
            x.drop(0, size);
            rest -= size * size;
        }
    }

    /** A keen plate with the window 1, and on it a pulse of this amplitude that began at the tick 0. */
    static ImpactPlate struck(int amplitude, int damping) {
        ImpactPlate x = keen(1, damping);
        strike(x, amplitude);
        return x;
    }

    /** Fates: counted, merged, faint, hidden, counted, merged, merged. */
    static ImpactPlate sevenDrops() {
        ImpactPlate x = new ImpactPlate();
        x.drop(5, 50);
        x.drop(2, 2);
        x.drop(1, 3);
        x.drop(0, 49);
        x.drop(1, 40);
        x.drop(0, 40);
        x.drop(2, 60);
        return x;
    }
}
