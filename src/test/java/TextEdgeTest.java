/** "TEXT" of the document: each sentence that names a boundary, with a test of its own. */
public final class TextEdgeTest {
    public static void main(String[] args) {
        beginsWithP();
        anyNumberOfParts();
        dropTicksFrom00To99();
        dropSizesFrom01To60();
        passesFrom01To99();
        tiltsFrom00To40();
        windowsFrom00To20();
        dampingsFrom1To9();
        digitsAlone();
        noBlanks();
        endsTooSoon();
        endsTooSoonAt100();
        firstErrorAlone();
        loadOfTheEdges();
        loadOfMostDrops();
        Check.finish();
    }

    private static void due(String text, int want) {
        Check.due("errorPosition() of " + text, Plates.withText(text).errorPosition(), want);
        Check.due("load() of " + text, Check.answer(Plates.withText(text)::load).contains("State") ? 1 : 0,
                want == -9 ? 0 : 1);
    }

    private static String digits(int v, int length) {
        String digits = Integer.toString(v);
        return "0".repeat(length - digits.length()) + digits;
    }

    /** Where the first digit stands that no allowed number begins with (all numbers of this length are tried). */
    private static int wrongDigit(String number, int least, int greatest) {
        for (int i = 1; i <= number.length(); i++) {
            boolean begins = false;
            for (int v = least; v <= greatest; v++) {
                begins = begins || digits(v, number.length()).startsWith(number.substring(0, i));
            }
            if (!begins) {
                return i - 1;
            }
        }
        return -9;
    }

    /** All numbers of two digits behind these signs, with what follows them. */
    private static void numbers(String before, String after, int least, int greatest) {
        for (int v = 0; v <= 99; v++) {
            String number = digits(v, 2);
            int wrong = wrongDigit(number, least, greatest);
            due(before + number + after, wrong == -9 ? -9 : before.length() + wrong);
        }
    }

    // A storm is the letter P, and then
    private static void beginsWithP() {
        due("P", -9);
        due("p", 0);
        due("Q", 0);
        due("O", 0);
        due("d0001", 0);
        due(" P", 0);
        due("PP", 1);
        ImpactPlate x = new ImpactPlate();
        x.append('P' + 128);
        Check.due("errorPosition() of the sign 208", x.errorPosition(), 0);
    }

    // any number of parts, in any order
    private static void anyNumberOfParts() {
        due("Pd0001p01t00w00g1", -9);
        due("Pg1w00t00p01d0001", -9);
        due("Pg1g1g1d0001d0001p99p99t40t00w20w20", -9);
        due("P" + "g1".repeat(49), -9);
        due("P" + "p01".repeat(33), -9);
        due("P" + "d0001".repeat(19), -9);
        due("P" + "g1".repeat(48) + "w20", -9);
        due("Pe", 1);
        due("Pc", 1);
        due("Po", 1);
        due("Pq", 1);
        due("Ps", 1);
        due("Pu", 1);
        due("Pv", 1);
        due("Px", 1);
        due("Pf", 1);
        due("Ph", 1);
        due("PD", 1);
        due("Pg1G1", 3);
    }

    // the letter d, two digits for ticks (00 to 99)
    private static void dropTicksFrom00To99() {
        numbers("Pd", "30", 0, 99);
    }

    // and two for a size (01 to 60)
    private static void dropSizesFrom01To60() {
        numbers("Pd05", "", 1, 60);
        numbers("Pg4d05", "p01", 1, 60);
    }

    // the letter p and two digits (01 to 99)
    private static void passesFrom01To99() {
        numbers("Pp", "", 1, 99);
        numbers("Pt07p", "g4", 1, 99);
    }

    // the letter t and two digits for the tilt (00 to 40)
    private static void tiltsFrom00To40() {
        numbers("Pt", "", 0, 40);
        numbers("Pd0530t", "g4", 0, 40);
    }

    // the letter w and two digits for the window (00 to 20)
    private static void windowsFrom00To20() {
        numbers("Pw", "", 0, 20);
        numbers("Pp04w", "g4", 0, 20);
    }

    // the letter g and a digit for the damping (1 to 9)
    private static void dampingsFrom1To9() {
        due("Pg0", 2);
        for (int v = 1; v <= 9; v++) {
            due("Pg" + v, -9);
            due("Pg" + v + "0", 3);
        }
        due("Pw20g0", 5);
    }

    private static void digitsAlone() {
        String[] numbers = {"d0530", "p30", "t30", "w15", "g5"};
        char[] others = {0, ' ', '+', '-', '.', '/', ':', 'a', 'd', 'P', 127, 176, 185, 255};
        for (String part : numbers) {
            for (int i = 1; i < part.length(); i++) {
                for (char other : others) {
                    due("P" + part.substring(0, i) + other + part.substring(i + 1), 1 + i);
                }
            }
        }
    }

    // There are no blanks.
    private static void noBlanks() {
        due("P ", 1);
        due("P d0530", 1);
        due("Pd 0530", 2);
        due("Pd05 30", 4);
        due("Pd0530 ", 6);
        due("Pd0530 p05", 6);
        due("Pg 4", 2);
        due("Pg4\n", 3);
    }

    // if the text ends too soon, it is the length of the text
    private static void endsTooSoon() {
        due("", 0);
        String whole = "Pd0530p09t40w20g9";
        for (int length = 1; length <= whole.length(); length++) {
            boolean between = length == 1 || length == 6 || length == 9 || length == 12 || length == 15
                    || length == 17;
            due(whole.substring(0, length), between ? -9 : length);
        }
    }

    private static void endsTooSoonAt100() {
        String[] ends = {"d", "d0", "d00", "d000", "p", "p0", "t", "t4", "w", "w2", "g"};
        for (String end : ends) {
            String start = "P" + "g1".repeat((99 - end.length()) / 2 - 1);
            int missing = 100 - start.length() - end.length();
            due(start + (missing == 2 ? "g1" : "p01") + end, 100);
        }
    }

    // The error position is the index of the first character that these rules do not allow at its place
    private static void firstErrorAlone() {
        due("Pt41w21g0", 3);
        due("Pxp00", 1);
        due("Pg4p00x", 5);
        due("Pd0061d", 5);
        due("Xd0", 0);
        ImpactPlate x = Plates.withText("Pd0530");
        x.clearText();
        Check.due("errorPosition() of an emptied text", x.errorPosition(), 0);
        Plates.write(x, "Pd0");
        Check.due("errorPosition() forgets what was there", x.errorPosition(), 3);
    }

    private static void loadOfTheEdges() {
        int[][] settings = {{0, 0, 1}, {40, 20, 9}};
        String[] texts = {"Pt00w00g1", "Pt40w20g9"};
        for (int i = 0; i < texts.length; i++) {
            ImpactPlate x = Plates.withText(texts[i]);
            x.load();
            for (int what = 0; what <= 2; what++) {
                Check.due("setting(" + what + ") of " + texts[i], x.setting(what), settings[i][what]);
            }
        }
        ImpactPlate y = Plates.withText("Pd0001d9960p01p99");
        Check.due("load()", y.load(), 2);
        Check.due("about(0)", y.about(0), 199);
        Check.due("trueRain()", y.trueRain(), 216001);
        Check.due("about(6)", y.about(6), 1);
        ImpactPlate z = Plates.withText("Pd0530w05p05");
        z.load();
        Check.due("about(11): closed by time when the window is 5", z.about(11), 0);
        ImpactPlate w = Plates.withText("Pd0530p02w02");
        w.load();
        Check.due("about(11): still open when the window is changed", w.about(11), 1);
        Check.due("pulse(0)", w.pulse(0), 2);
    }

    private static void loadOfMostDrops() {
        ImpactPlate x = Plates.withText("P" + "d0160".repeat(19) + "g7");
        Check.due("load()", x.load(), 19);
        Check.due("about(0)", x.about(0), 19);
        Check.due("setting(2)", x.setting(2), 7);
        ImpactPlate y = Plates.withText("P" + "g1".repeat(48) + "g6");
        Check.due("load() of 49 parts", y.load(), 0);
        Check.due("setting(2) by the last part", y.setting(2), 6);
    }
}
