/** Everything that can be seen of a plate without changing it, as one text. */
final class Look {
    private Look() {
    }

    static String at(ImpactPlate x) {
        StringBuilder seen = new StringBuilder();
        for (int what = 0; what <= 11; what++) {
            seen.append(x.about(what)).append(' ');
        }
        seen.append("| ");
        for (int what = 0; what <= 4; what++) {
            seen.append(x.setting(what)).append(' ');
        }
        seen.append("| ");
        for (int k = 0; k <= 7; k++) {
            for (int what = 0; what <= 4; what++) {
                seen.append(x.bin(k, what)).append(' ');
            }
        }
        seen.append("| ");
        for (int what = 0; what <= 3; what++) {
            seen.append(x.pulse(what)).append(' ');
        }
        seen.append("| ");
        for (int i = 0; i <= 60; i++) {
            seen.append(x.fate(i)).append(' ');
        }
        seen.append("| ").append(x.trueRain()).append(' ').append(x.errorPosition());
        for (int law = 0; law <= 2; law++) {
            seen.append(' ').append(x.rain(law)).append(' ').append(x.bestWindow(law));
        }
        seen.append(" | ");
        for (int window = 0; window <= 20; window += 4) {
            for (int what = 0; what <= 3; what++) {
                seen.append(x.replay(window, 3, what)).append(' ');
            }
        }
        return seen.toString();
    }
}
