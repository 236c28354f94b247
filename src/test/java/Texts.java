/** Texts by lots: most can be read, some have a fault. */
final class Texts {
    private static final String[] NAMES = {"face", "known", "hour", "lying", "admitted", "more"};
    private static final String[] STRAY = {"(", ")", ";", "+", "-", "*", "<", "=", "not", "and", "or", "looks", "waits",
        "drops", "12345", "faces", "x", "A", "\t", "\n", "?", "7", "hour", "\u00ff", "- - - - - -", "((((((", "12"};

    private final Lots lots;

    Texts(Lots itsLots) {
        lots = itsLots;
    }

    String any() {
        StringBuilder text = new StringBuilder();
        text.append(blank()).append("looks ").append(e(depth())).append(";").append(blank());
        text.append("waits ").append(e(depth())).append(blank()).append(";");
        text.append("drops ").append(e(depth())).append(";").append(blank());
        String whole = text.toString();
        if (lots.oneIn(3)) {
            int at = lots.below(whole.length() + 1);
            int to = lots.oneIn(2) ? at : Math.min(whole.length(), at + 1 + lots.below(3));
            String stray = lots.oneIn(4) ? "" : STRAY[lots.below(STRAY.length)];
            whole = whole.substring(0, at) + stray + (lots.oneIn(5) ? "" : whole.substring(to));
        }
        return whole.substring(0, Math.min(160, whole.length()));
    }

    private int depth() {
        return lots.oneIn(4) ? 5 : 1 + lots.below(2);
    }

    private String blank() {
        return lots.oneIn(4) ? "\n" : lots.oneIn(2) ? " " : "";
    }

    private String e(int depth) {
        if (lots.oneIn(6)) {
            return and(depth) + " or " + and(depth);
        }
        return and(depth);
    }

    private String and(int depth) {
        return lots.oneIn(6) ? not(depth) + " and " + not(depth) : not(depth);
    }

    private String not(int depth) {
        if (depth > 0 && lots.oneIn(7)) {
            return "not " + not(depth - 1);
        }
        return lots.oneIn(4) ? sum(depth) + (lots.oneIn(2) ? "<" : "=") + sum(depth) : sum(depth);
    }

    private String sum(int depth) {
        return lots.oneIn(2) ? term(depth) + (lots.oneIn(2) ? "+" : "-") + term(depth) : term(depth);
    }

    private String term(int depth) {
        return lots.oneIn(3) ? one(depth) + "*" + one(depth) : one(depth);
    }

    private String one(int depth) {
        if (depth > 0 && lots.oneIn(5)) {
            return "-" + one(depth - 1);
        }
        if (depth > 0 && lots.oneIn(3)) {
            return "(" + e(depth - 1) + ")";
        }
        return lots.oneIn(2) ? NAMES[lots.below(6)] : String.valueOf(lots.below(lots.oneIn(5) ? 10000 : 70));
    }
}
