/** Promises 2 to 5: append, clearText, errorPosition, load. */
public final class TextTest {
    public static void main(String[] args) {
        append();
        clearText();
        errorPosition();
        load();
        loadStartsAnew();
        loadReadsEachPart();
        Check.finish();
    }

    private static void append() {
        ImpactPlate x = new ImpactPlate();
        Check.due("append(0)", x.append(0), 1);
        Check.due("append(255)", x.append(255), 2);
        Check.dueThrow("append(-1)", IllegalArgumentException.class, () -> x.append(-1));
        Check.dueThrow("append(256)", IllegalArgumentException.class, () -> x.append(256));
        Check.dueThrow("append(336)", IllegalArgumentException.class, () -> x.append(256 + 80));
        Check.due("append(80)", x.append(80), 3);
        for (int length = 4; length <= 100; length++) {
            Check.due("append", x.append(80), length);
        }
        Check.dueThrow("append to a full text", IllegalStateException.class, () -> x.append(80));
        Check.dueThrow("append of no character to a full text", IllegalArgumentException.class,
                () -> x.append(256));
        Check.due("clearText()", x.clearText(), 100);
        ImpactPlate y = Plates.withText("P");
        y.drop(0, 5);
        y.append('d');
        Check.due("undo() after append: append is no action", y.undo(), 0);
        Check.due("the text outlives undo()", y.errorPosition(), 2);
    }

    private static void clearText() {
        ImpactPlate x = Plates.withText("Pg4");
        Check.due("clearText()", x.clearText(), 3);
        Check.due("clearText() again", x.clearText(), 0);
        Check.due("errorPosition() of no text", x.errorPosition(), 0);
        Check.due("append", x.append('P'), 1);
        Check.due("errorPosition()", x.errorPosition(), -9);
    }

    private static void errorPosition() {
        String[] storms = {"P", "Pd0001", "Pd9960", "Pd0010", "Pd5059", "Pp01", "Pp99", "Pp10", "Pt00", "Pt40",
            "Pt39", "Pw00", "Pw20", "Pw19", "Pg1", "Pg9", "Pg1g2g3", "Pt10w10g9p10d1010p05", "Pp09d0009"};
        for (String storm : storms) {
            Check.due("errorPosition() of " + storm, Plates.withText(storm).errorPosition(), -9);
        }
        String[] early = {"", "Pd", "Pd0", "Pd00", "Pd000", "Pd006", "Pp", "Pp0", "Pp9", "Pt", "Pt4", "Pw", "Pw2",
            "Pg", "Pg1d00", "Pp01t0"};
        for (String text : early) {
            Check.due("errorPosition() of " + text, Plates.withText(text).errorPosition(), text.length());
        }
        Object[][] wrong = {{"X", 0}, {"p01", 0}, {"PP", 1}, {"P ", 1}, {"Px", 1}, {"P0", 1}, {"PD0001", 1},
            {"Pdx", 2}, {"Pd0x", 3}, {"Pd00x", 4}, {"Pd007", 4}, {"Pd0000", 5}, {"Pd0061", 5}, {"Pd006x", 5},
            {"Pd00010", 6}, {"Pp00", 3}, {"Pp0x", 3}, {"Ppx", 2}, {"Pp010", 4}, {"Pt41", 3}, {"Pt5", 2},
            {"Pw21", 3}, {"Pw3", 2}, {"Pg0", 2}, {"Pgx", 2}, {"Pg10", 3}, {"Pg1 ", 3}, {"Pp1/", 3}, {"Pp1:", 3}, {"Pd001/", 5}, {"Pt/0", 2}, {"Pt:0", 2},
            {"Pt0/", 3}, {"Pt0:", 3}, {"Pg/", 2}, {"Pg:", 2}, {"Pp01x0000", 4}, {"Pd00610x", 5}};
        for (Object[] row : wrong) {
            Check.due("errorPosition() of " + row[0], Plates.withText((String) row[0]).errorPosition(), (Integer) row[1]);
        }
        String longest = "P" + "g5".repeat(48) + "p01";
        Check.due("errorPosition() of 100 signs", Plates.withText(longest).errorPosition(), -9);
        Check.due("errorPosition() of 100 signs that end too soon",
                Plates.withText("P" + "p01".repeat(32) + "d00").errorPosition(), 100);
        ImpactPlate stale = Plates.withText("Pd0001");
        stale.clearText();
        stale.append('P');
        stale.append('d');
        Check.due("errorPosition() looks at nothing behind the end", stale.errorPosition(), 2);
    }

    private static void load() {
        ImpactPlate x = Plates.withText("P");
        Check.due("load() of P", x.load(), 0);
        Check.due("about(0)", x.about(0), 0);
        x.append('d');
        Check.dueThrow("load() of Pd", IllegalStateException.class, x::load);
        x.drop(2, 20);
        x.save(0);
        Check.dueThrow("load() of Pd", IllegalStateException.class, x::load);
        Check.due("undo() after a load() that threw", x.undo(), 0);
        Check.due("restore(0) after a load() that threw", x.restore(0), 2);
        ImpactPlate y = Plates.withText("Pd0520d0110p02d0960");
        Check.due("load() of three drops", y.load(), 3);
        Check.due("about(0)", y.about(0), 17);
        Check.due("about(1)", y.about(1), 3);
        Check.due("about(3)", y.about(3), 1);
        Check.due("trueRain()", y.trueRain(), 8000 + 1000 + 216000);
        Check.due("bin(3, 4)", y.bin(3, 4), 2);
        Check.due("the text is kept", y.clearText(), 19);
    }

    private static void loadStartsAnew() {
        ImpactPlate x = Plates.withText("Pd0930");
        x.set(0, 7);
        x.set(3, 100);
        x.set(4, 700);
        x.setBorder(1, 3);
        for (int i = 0; i < 70; i++) {
            x.drop(7, 1 + i % 60);
        }
        x.save(0);
        x.save(1);
        Check.due("load()", x.load(), 1);
        ImpactPlate y = Plates.withText("Pd0930");
        y.drop(9, 30);
        Check.due("all there is after load()", Look.at(x), Look.at(y));
        Check.dueThrow("undo() after load()", IllegalStateException.class, x::undo);
        Check.dueThrow("restore(0) after load()", IllegalStateException.class, () -> x.restore(0));
        Check.dueThrow("restore(1) after load()", IllegalStateException.class, () -> x.restore(1));
        Check.due("load() again", x.load(), 1);
        Check.due("all there is after load() again", Look.at(x), Look.at(y));
    }

    private static void loadReadsEachPart() {
        ImpactPlate x = Plates.withText("Pt40w20g9p99d9960");
        Check.due("load()", x.load(), 1);
        Check.due("setting(0)", x.setting(0), 40);
        Check.due("setting(1)", x.setting(1), 20);
        Check.due("setting(2)", x.setting(2), 9);
        Check.due("about(0)", x.about(0), 198);
        Check.due("pulse(1)", x.pulse(1), 720);
        ImpactPlate y = Plates.withText("Pd0010w00p01w12t05g1d0120");
        Check.due("load() in the order of its parts", y.load(), 2);
        Check.due("about(6): the window was 0 when a tick went by", y.about(6), 1);
        Check.due("pulse(0)", y.pulse(0), 0);
        Check.due("pulse(1): 360 and half of 100 halved twice", y.pulse(1), 372);
        Check.due("setting(1)", y.setting(1), 12);
        ImpactPlate z = Plates.withText("Pd0010w00");
        z.load();
        Check.due("about(11): a changed window closes nothing", z.about(11), 1);
    }
}
