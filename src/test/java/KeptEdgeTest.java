/**
 * What is kept, and how much of it: the trace, the record, the text, the remembered states, the save slots; empty,
 * full, and the oldest that is forgotten when one more comes.
 */
public final class KeptEdgeTest {
    public static void main(String[] args) {
        traceEmpty();
        traceFull();
        traceForgetsTheOldest();
        countsOutliveTheTrace();
        longestOfTheTrace();
        patternOfTheTrace();
        patternLongerThanTheTrace();
        patternForgets();
        recordEmpty();
        recordFull();
        recordForgetsTheOldest();
        recordGaps();
        recordAfterOtherActions();
        recordAfterLoad();
        recordRainForgetsTheOldest();
        textFull();
        memoryFull();
        memoryFullAgain();
        actionsThatChangeNothing();
        callsThatAreNoActions();
        undoIsNoAction();
        undoKeepsTextAndSlots();
        loadIsAsANewObject();
        loadEmptiesBothSlots();
        restoreForgetsWhatIsRemembered();
        slotKeepsItsState();
        slotIsOverwritten();
        Check.finish();
    }

    private static void drops(ImpactPlate x, int count, int size) {
        for (int i = 0; i < count; i++) {
            x.drop(0, size);
        }
    }

    // ---- the trace: the fates of the last 60 drops are kept, the latest one last

    private static void traceEmpty() {
        ImpactPlate x = new ImpactPlate();
        Check.due("about(10)", x.about(10), 0);
        Check.due("fate(0)", x.fate(0), -9);
        Check.due("fate(59)", x.fate(59), -9);
        for (int fate = 0; fate <= 3; fate++) {
            Check.due("longest(" + fate + ")", x.longest(fate), 0);
            Check.due("pattern(1, " + fate + ")", x.pattern(1, fate), 0);
        }
        x.drop(0, 30);
        Check.due("about(10) with one drop", x.about(10), 1);
        Check.due("fate(0) with one drop", x.fate(0), 0);
        Check.due("fate(1) with one drop", x.fate(1), -9);
    }

    private static void traceFull() {
        ImpactPlate x = new ImpactPlate();
        x.drop(0, 30);
        drops(x, 58, 1);
        Check.due("about(10) with 59 drops", x.about(10), 59);
        Check.due("fate(58) with 59 drops", x.fate(58), 0);
        Check.due("fate(59) with 59 drops", x.fate(59), -9);
        x.drop(3, 1);
        Check.due("about(10) with 60 drops", x.about(10), 60);
        Check.due("fate(0): the latest", x.fate(0), 3);
        Check.due("fate(1)", x.fate(1), 1);
        Check.due("fate(58)", x.fate(58), 1);
        Check.due("fate(59): the oldest", x.fate(59), 0);
        Check.due("fate(60)", x.fate(60), -9);
        Check.due("fate of the greatest int", x.fate(Integer.MAX_VALUE), -9);
    }

    private static void traceForgetsTheOldest() {
        ImpactPlate x = new ImpactPlate();
        x.drop(0, 30);
        x.drop(0, 1);
        drops(x, 58, 60);
        Check.due("longest(0) with 60 drops", x.longest(0), 1);
        x.drop(3, 1);
        Check.due("about(10) with 61 drops", x.about(10), 60);
        Check.due("longest(0) with 61 drops", x.longest(0), 0);
        Check.due("longest(1) with 61 drops", x.longest(1), 59);
        Check.due("fate(59) with 61 drops", x.fate(59), 1);
        Check.due("fate(60) with 61 drops", x.fate(60), -9);
        Check.due("undo()", x.undo(), 13);
        Check.due("fate(59) after undo(): there again", x.fate(59), 0);
        Check.due("fate(0) after undo()", x.fate(0), 1);
    }

    private static void countsOutliveTheTrace() {
        ImpactPlate x = new ImpactPlate();
        x.drop(0, 30);
        drops(x, 100, 1);
        x.drop(3, 20);
        drops(x, 200, 1);
        Check.due("about(1)", x.about(1), 302);
        Check.due("about(2)", x.about(2), 1);
        Check.due("about(3)", x.about(3), 100);
        Check.due("about(4)", x.about(4), 1);
        Check.due("about(5)", x.about(5), 200);
        Check.due("about(10)", x.about(10), 60);
    }

    private static void longestOfTheTrace() {
        ImpactPlate x = new ImpactPlate();
        drops(x, 5, 1);
        x.drop(0, 30);
        drops(x, 6, 1);
        x.drop(3, 1);
        Check.due("longest(3): a run at the beginning", x.longest(3), 5);
        Check.due("longest(1): a run in the middle", x.longest(1), 6);
        Check.due("longest(0): one drop", x.longest(0), 1);
        Check.due("longest(2): none", x.longest(2), 0);
        drops(x, 5, 1);
        Check.due("longest(3): a run at the end", x.longest(3), 6);
        drops(x, 53, 1);
        Check.due("longest(3): 59", x.longest(3), 59);
        drops(x, 1, 1);
        Check.due("longest(3): the whole trace", x.longest(3), 60);
        drops(x, 1, 1);
        Check.due("longest(3): no more than the trace has", x.longest(3), 60);
    }

    // at how many places of the trace these fates stand one directly after the other (places may overlap)
    private static void patternOfTheTrace() {
        ImpactPlate x = Plates.sevenDrops();
        int[][] rows = {{1, 0, 2}, {1, 1, 3}, {2, 1, 2}, {3, 13, 1}, {2, 11, 1}, {3, 11, 1}, {3, 111, 0}, {2, 0, 0},
            {6, 13201, 1}, {7, 132011, 1}, {5, 32011, 1}, {4, 1320, 1}, {4, 2011, 1}, {3, 132, 1}, {4, 132, 1}};
        for (int[] row : rows) {
            Check.due("pattern(" + row[0] + ", " + row[1] + ")", x.pattern(row[0], row[1]), row[2]);
        }
        ImpactPlate y = new ImpactPlate();
        drops(y, 10, 1);
        for (int n = 1; n <= 8; n++) {
            Check.due("pattern of " + n + " in 10: places overlap", y.pattern(n, Integer.parseInt("3".repeat(n))),
                    11 - n);
        }
    }

    private static void patternLongerThanTheTrace() {
        for (int length = 0; length <= 8; length++) {
            ImpactPlate x = new ImpactPlate();
            drops(x, length, 1);
            int threes = 0;
            for (int n = 1; n <= 8; n++) {
                threes = threes * 10 + 3;
                Check.due("pattern of " + n + " in " + length, x.pattern(n, threes), Math.max(0, length + 1 - n));
                Check.due("pattern of " + n + " noughts", x.pattern(n, 0), 0);
            }
        }
    }

    private static void patternForgets() {
        ImpactPlate x = new ImpactPlate();
        x.drop(0, 30);
        drops(x, 59, 1);
        Check.due("pattern(2, 1): counted, merged", x.pattern(2, 1), 1);
        Check.due("pattern(8, 11111111)", x.pattern(8, 11111111), 52);
        x.drop(0, 1);
        Check.due("pattern(2, 1) of what is forgotten", x.pattern(2, 1), 0);
        Check.due("pattern(8, 11111111) in a full trace", x.pattern(8, 11111111), 53);
        Check.due("pattern(1, 1) in a full trace", x.pattern(1, 1), 60);
    }

    // ---- the record: the last 40 drops

    private static void recordEmpty() {
        ImpactPlate x = new ImpactPlate();
        Check.due("about(9)", x.about(9), 0);
        for (int what = 0; what <= 3; what++) {
            Check.due("replay(3, 4, " + what + ")", x.replay(3, 4, what), 0);
        }
        for (int law = 0; law <= 2; law++) {
            Check.due("bestWindow(" + law + ")", x.bestWindow(law), 0);
        }
        x.drop(0, 4);
        Check.due("about(9) with one drop", x.about(9), 1);
        Check.due("replay(3, 4, 3) with one drop", x.replay(3, 4, 3), 1);
    }

    // 5 drops that are counted apart, and then faint ones
    private static ImpactPlate fiveAndFaint(int faint) {
        ImpactPlate x = new ImpactPlate();
        x.set(1, 0);
        for (int i = 0; i < 5; i++) {
            x.drop(99, 30);
        }
        drops(x, faint, 1);
        return x;
    }

    private static void recordFull() {
        for (int faint = 34; faint <= 40; faint++) {
            ImpactPlate x = fiveAndFaint(faint);
            Check.due("about(9) with " + (5 + faint) + " drops", x.about(9), Math.min(40, 5 + faint));
            Check.due("replay(0, 4, 0)", x.replay(0, 4, 0), Math.min(5, 40 - faint));
            Check.due("replay(0, 4, 3)", x.replay(0, 4, 3), Math.min(40, faint));
        }
    }

    private static void recordForgetsTheOldest() {
        ImpactPlate x = new ImpactPlate();
        x.drop(0, 60);
        drops(x, 39, 10);
        Check.due("replay(0, 9, 2) with 40 drops", x.replay(0, 9, 2), 39);
        x.drop(0, 10);
        Check.due("replay(0, 9, 0) with 41 drops", x.replay(0, 9, 0), 2);
        Check.due("replay(0, 9, 2) with 41 drops", x.replay(0, 9, 2), 38);
        x.undo();
        Check.due("replay(0, 9, 2) after undo(): the oldest is there again", x.replay(0, 9, 2), 39);
    }

    // how many ticks after the drop before each of them fell
    private static void recordGaps() {
        for (int gap = 0; gap <= 21; gap++) {
            ImpactPlate x = new ImpactPlate();
            x.drop(3, 30);
            x.drop(gap, 10);
            for (int window = 0; window <= 20; window++) {
                Check.due("replay(" + window + ", 4, 1) with the gap " + gap, x.replay(window, 4, 1),
                        gap < window ? 1 : 0);
            }
        }
        ImpactPlate y = new ImpactPlate();
        y.drop(3, 30);
        y.drop(10, 4);
        y.drop(9, 4);
        Check.due("replay(20, 4, 1): 10 and 19 ticks after the first", y.replay(20, 4, 1), 2);
        Check.due("replay(19, 4, 1)", y.replay(19, 4, 1), 1);
        Check.due("replay(11, 4, 1)", y.replay(11, 4, 1), 1);
        Check.due("replay(10, 4, 1)", y.replay(10, 4, 1), 0);
    }

    private static void recordAfterOtherActions() {
        ImpactPlate x = new ImpactPlate();
        x.drop(3, 30);
        x.pass(6);
        x.set(0, 3);
        x.pass(4);
        x.empty();
        x.drop(5, 30);
        Check.due("replay(16, 4, 1): ticks that go by count", x.replay(16, 4, 1), 1);
        Check.due("replay(15, 4, 1)", x.replay(15, 4, 1), 0);
        x.undo();
        x.drop(4, 30);
        Check.due("replay(15, 4, 1) after undo()", x.replay(15, 4, 1), 1);
        x.save(0);
        x.pass(50);
        x.restore(0);
        x.drop(2, 4);
        Check.due("replay(17, 4, 1) after restore()", x.replay(17, 4, 1), 2);
        Check.due("replay(16, 4, 1) after restore()", x.replay(16, 4, 1), 1);
    }

    private static void recordAfterLoad() {
        ImpactPlate x = Plates.withText("Pp50d0530p03d0401");
        x.drop(99, 1);
        x.drop(99, 1);
        x.load();
        Check.due("about(9)", x.about(9), 2);
        Check.due("replay(8, 4, 1)", x.replay(8, 4, 1), 1);
        Check.due("replay(7, 4, 1)", x.replay(7, 4, 1), 0);
    }

    // the rain that is reckoned for the drops of the record .. differs least from their true rain
    private static void recordRainForgetsTheOldest() {
        ImpactPlate x = new ImpactPlate();
        x.set(2, 1);
        x.drop(0, 60);
        for (int i = 0; i < 37; i++) {
            x.drop(99, 1);
        }
        x.drop(99, 30);
        x.drop(19, 30);
        // true 270037, reckoned 125000 and 27000 twice, or, with the window 20, 125000 and 64000
        Check.due("bestWindow(0) with 40 drops", x.bestWindow(0), 20);
        x.drop(99, 1);
        // true 54038, reckoned 27000 twice, or 64000
        Check.due("bestWindow(0) when the first is forgotten", x.bestWindow(0), 0);
        x.undo();
        Check.due("bestWindow(0) after undo()", x.bestWindow(0), 20);
    }

    // ---- the text: at most 100 characters

    private static void textFull() {
        ImpactPlate x = new ImpactPlate();
        for (int length = 1; length <= 100; length++) {
            Check.due("append", x.append('P'), length);
        }
        Check.dueThrow("append to 100 characters", IllegalStateException.class, () -> x.append('P'));
        Check.due("clearText()", x.clearText(), 100);
        Check.due("append to an emptied text", x.append('P'), 1);
        Check.due("clearText()", x.clearText(), 1);
        Check.due("clearText() of no text", x.clearText(), 0);
    }

    // ---- actions and undo: at most 14 states are remembered

    private static void memoryFull() {
        for (int actions = 0; actions <= 16; actions++) {
            ImpactPlate x = new ImpactPlate();
            for (int i = 0; i < actions; i++) {
                x.pass(1);
            }
            int remembered = Math.min(actions, 14);
            for (int left = remembered - 1; left >= 0; left--) {
                Check.due("undo() after " + actions + " actions", x.undo(), left);
                Check.due("about(0)", x.about(0), actions - remembered + left);
            }
            Check.dueThrow("one undo() more", IllegalStateException.class, x::undo);
            Check.due("about(0) at last", x.about(0), actions - remembered);
        }
    }

    private static void memoryFullAgain() {
        ImpactPlate x = new ImpactPlate();
        for (int round = 0; round < 5; round++) {
            for (int i = 0; i < 15; i++) {
                x.pass(1);
            }
            for (int left = 13; left >= 9; left--) {
                Check.due("undo()", x.undo(), left);
            }
        }
        Check.due("about(0) after 75 actions and 25 undos", x.about(0), 50);
        for (int left = 8; left >= 0; left--) {
            Check.due("undo()", x.undo(), left);
            Check.due("about(0)", x.about(0), 41 + left);
        }
        Check.dueThrow("undo()", IllegalStateException.class, x::undo);
    }

    // Each call of one of them that does not throw an exception is an action, also if nothing becomes different
    private static void actionsThatChangeNothing() {
        ImpactPlate x = new ImpactPlate();
        x.set(0, 0);
        x.set(4, 3000);
        x.setBorder(4, 900);
        x.empty();
        x.empty();
        Check.due("undo() of the second empty()", x.undo(), 4);
        Check.due("undo() of the first empty()", x.undo(), 3);
        Check.due("undo() of setBorder()", x.undo(), 2);
        Check.due("undo() of set()", x.undo(), 1);
        Check.due("undo() of set()", x.undo(), 0);
        Check.due("all there is", Look.at(x), Look.at(new ImpactPlate()));
    }

    private static void callsThatAreNoActions() {
        ImpactPlate x = Plates.withText("P");
        x.pass(7);
        Look.at(x);
        x.longest(1);
        x.pattern(1, 1);
        x.wouldBe(5, 30);
        x.leastSize(5);
        x.quietIn(5);
        x.runScript(1, 10530);
        x.simulate(5, 20);
        x.save(0);
        x.append('p');
        x.clearText();
        x.errorPosition();
        for (int wrong = 0; wrong < 3; wrong++) {
            Check.answer(() -> x.drop(100, 1));
            Check.answer(() -> x.pass(100));
            Check.answer(() -> x.set(5, 1));
            Check.answer(() -> x.setBorder(1, 5000));
            Check.answer(() -> x.load());
            Check.answer(() -> x.restore(1));
        }
        Check.due("undo(): pass(7) is the only action", x.undo(), 0);
        Check.due("about(0)", x.about(0), 0);
    }

    // (undo is none)
    private static void undoIsNoAction() {
        ImpactPlate x = new ImpactPlate();
        for (int i = 0; i < 5; i++) {
            x.pass(1);
        }
        Check.due("undo()", x.undo(), 4);
        Check.due("undo() again takes back the action before", x.undo(), 3);
        Check.due("about(0)", x.about(0), 3);
        x.pass(50);
        Check.due("undo() of what came then", x.undo(), 3);
        Check.due("about(0)", x.about(0), 3);
        Check.due("undo()", x.undo(), 2);
        Check.due("about(0)", x.about(0), 2);
    }

    // the state .. consists of everything but the text and the save slots
    private static void undoKeepsTextAndSlots() {
        ImpactPlate x = new ImpactPlate();
        x.pass(1);
        x.pass(2);
        x.save(0);
        x.append('P');
        x.append('d');
        Check.due("undo()", x.undo(), 1);
        Check.due("errorPosition(): the text is kept", x.errorPosition(), 2);
        x.clearText();
        Check.due("undo()", x.undo(), 0);
        Check.due("clearText(): the text does not come again", x.clearText(), 0);
        Check.due("restore(0): the slot is kept", x.restore(0), 3);
    }

    // load: Makes everything as in a new object .. Forgets all remembered states
    private static void loadIsAsANewObject() {
        ImpactPlate x = Plates.withText("P");
        for (int i = 0; i < 65; i++) {
            x.drop(i % 5, 1 + i * 13 % 60);
        }
        int[] settings = {40, 20, 9, 200, 500};
        for (int what = 0; what <= 4; what++) {
            x.set(what, settings[what]);
        }
        x.setBorder(1, 1);
        x.setBorder(7, 5000);
        x.save(0);
        Check.due("load()", x.load(), 0);
        Check.dueThrow("undo()", IllegalStateException.class, x::undo);
        ImpactPlate y = Plates.withText("P");
        Check.due("all there is", Look.at(x), Look.at(y));
        Check.due("a drop then", x.drop(0, 30), 0);
        Check.due("undo() of it", x.undo(), 0);
        Check.due("load() keeps the text", x.clearText(), 1);
    }

    // load: empties both save slots
    private static void loadEmptiesBothSlots() {
        for (int slot = 0; slot <= 1; slot++) {
            int s = slot;
            ImpactPlate x = Plates.withText("Pp07");
            x.pass(5);
            x.save(0);
            x.save(1);
            x.load();
            Check.dueThrow("restore(" + s + ") behind load()", IllegalStateException.class, () -> x.restore(s));
            Check.due("save(" + s + ") behind load()", x.save(s), 7);
            Check.dueThrow("restore of the other", IllegalStateException.class, () -> x.restore(1 - s));
            Check.due("restore(" + s + ") of what is saved then", x.restore(s), 7);
        }
    }

    // restore: forgets all remembered states
    private static void restoreForgetsWhatIsRemembered() {
        ImpactPlate x = new ImpactPlate();
        x.save(0);
        for (int i = 0; i < 20; i++) {
            x.pass(1);
        }
        Check.due("restore(0)", x.restore(0), 0);
        Check.dueThrow("undo()", IllegalStateException.class, x::undo);
        for (int i = 0; i < 20; i++) {
            x.pass(2);
        }
        for (int left = 13; left >= 0; left--) {
            Check.due("undo()", x.undo(), left);
            Check.due("about(0)", x.about(0), 12 + 2 * left);
        }
        Check.dueThrow("undo() of the 15th", IllegalStateException.class, x::undo);
    }

    // restore: The save slot keeps it.
    private static void slotKeepsItsState() {
        ImpactPlate x = new ImpactPlate();
        x.drop(3, 30);
        x.save(1);
        for (int i = 0; i < 3; i++) {
            x.drop(9, 40);
            x.set(3, 50);
            x.empty();
            Check.due("restore(1)", x.restore(1), 3);
            Check.due("about(1)", x.about(1), 1);
            Check.due("setting(3)", x.setting(3), 20);
            Check.due("pulse(1)", x.pulse(1), 900);
        }
    }

    private static void slotIsOverwritten() {
        ImpactPlate x = new ImpactPlate();
        x.save(0);
        x.pass(5);
        Check.due("save(0): the tick", x.save(0), 5);
        x.pass(5);
        Check.due("save(1): the tick", x.save(1), 10);
        Check.due("restore(0): what was saved last", x.restore(0), 5);
        Check.due("restore(1)", x.restore(1), 10);
        Check.due("restore(0) again", x.restore(0), 5);
    }
}
