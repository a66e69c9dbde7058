/** Promises 28 and 29: save, restore. */
public final class SlotTest {
    public static void main(String[] args) {
        range();
        saveAndRestore();
        restoreForgets();
        slotsAreApart();
        Check.finish();
    }

    private static void range() {
        ImpactPlate x = new ImpactPlate();
        x.drop(3, 30);
        for (int slot : new int[] {-1, 2, Integer.MIN_VALUE, Integer.MAX_VALUE}) {
            Check.dueThrow("save(" + slot + ")", IndexOutOfBoundsException.class, () -> x.save(slot));
            Check.dueThrow("restore(" + slot + ")", IndexOutOfBoundsException.class, () -> x.restore(slot));
        }
        Check.dueThrow("restore(0)", IllegalStateException.class, () -> x.restore(0));
        x.save(1);
        Check.dueThrow("restore(0)", IllegalStateException.class, () -> x.restore(0));
        Check.due("restore(1)", x.restore(1), 3);
    }

    // 65 drops, the last at the tick 7 * 36 + 0 + 1
    private static ImpactPlate rained() {
        ImpactPlate x = new ImpactPlate();
        for (int i = 0; i < 65; i++) {
            x.drop(i % 9, 1 + i * 7 % 60);
        }
        x.set(0, 13);
        x.set(4, 900);
        x.setBorder(2, 333);
        return x;
    }

    private static void saveAndRestore() {
        String saved = Look.at(rained());
        for (int slot = 0; slot <= 1; slot++) {
            ImpactPlate x = rained();
            Check.due("save", x.save(slot), 253);
            for (int i = 0; i < 2; i++) {
                x.drop(9, 60);
                x.set(1, 20);
                x.set(2, 9);
                x.set(3, 200);
                x.setBorder(2, 334);
                x.drop(0, 1);
                x.empty();
                x.pass(30);
                x.append('P');
                Check.due("restore", x.restore(slot), 253);
                Check.due("clearText(): the text is no part of the state", x.clearText(), 1);
                Check.due("all there is after restore", Look.at(x), saved);
            }
            Check.dueThrow("undo() after restore", IllegalStateException.class, x::undo);
        }
    }

    private static void restoreForgets() {
        ImpactPlate x = new ImpactPlate();
        x.save(0);
        x.pass(1);
        x.pass(2);
        Check.due("save is no action", x.undo(), 1);
        x.save(1);
        Check.due("save forgets nothing", x.undo(), 0);
        x.pass(7);
        Check.due("restore(1)", x.restore(1), 1);
        Check.dueThrow("undo()", IllegalStateException.class, x::undo);
        x.pass(1);
        Check.due("undo() of what came after", x.undo(), 0);
        Check.due("about(0)", x.about(0), 1);
        Check.due("restore(0)", x.restore(0), 0);
        for (int i = 0; i < 20; i++) {
            x.pass(1);
        }
        Check.due("undo() of 20 actions behind a restore", x.undo(), 13);
    }

    private static void slotsAreApart() {
        ImpactPlate x = new ImpactPlate();
        x.save(0);
        x.pass(5);
        x.save(1);
        x.pass(5);
        Check.due("restore(0)", x.restore(0), 0);
        Check.due("restore(1)", x.restore(1), 5);
        x.pass(1);
        Check.due("save(0) again", x.save(0), 6);
        x.undo();
        Check.due("restore(0): the later one", x.restore(0), 6);
        Check.due("restore(1)", x.restore(1), 5);
    }
}
