/** Texts of seasons, good ones and others. */
final class Texts {
    private static final String SIGNS = "moreslpay 0123456789pkvwtd<=>!()&|;x";

    private Texts() {
    }

    static String good(Dice dice, int clauses) {
        StringBuilder text = new StringBuilder();
        for (int c = 0; c < clauses; c++) {
            int before = text.length();
            text.append(c == 0 ? "" : ";");
            if (dice.once(4)) {
                text.append("pay ").append(number(dice));
            } else {
                text.append(dice.once(3) ? "less " : "more ").append(number(dice)).append(' ');
                expression(dice, text, 0);
            }
            if (text.length() > 100) {
                text.setLength(before);
            }
        }
        return text.toString();
    }

    /** A good one, or one with a byte lost, another, or one more; or cut off. */
    static String maybeFaulty(Dice dice) {
        StringBuilder text = new StringBuilder(good(dice, dice.between(1, 11)));
        if (dice.once(3) || text.length() == 0) {
            return text.toString();
        }
        int at = dice.upTo(text.length());
        char sign = SIGNS.charAt(dice.upTo(SIGNS.length()));
        switch (dice.upTo(4)) {
            case 0: text.setLength(at); break;
            case 1: text.setCharAt(at, sign); break;
            case 2: text.deleteCharAt(at); break;
            default: text.insert(at, sign);
        }
        return text.length() > 100 ? text.substring(0, 100) : text.toString();
    }

    private static String number(Dice dice) {
        int n = dice.upTo(dice.once(2) ? 100 : 10);
        return (n < 10 && dice.once(6) ? "0" : "") + n;
    }

    private static void expression(Dice dice, StringBuilder text, int depth) {
        factor(dice, text, depth);
        for (int more = dice.upTo(6) - 3; more > 0; more--) {
            text.append(dice.once(2) ? '&' : '|');
            factor(dice, text, depth);
        }
    }

    private static void factor(Dice dice, StringBuilder text, int depth) {
        // Now and then one too deep.
        if (depth < 4 + (dice.once(50) ? 1 : 0) && dice.once(2)) {
            if (dice.once(2)) {
                text.append('!');
                factor(dice, text, depth + 1);
            } else {
                text.append('(');
                expression(dice, text, depth + 1);
                text.append(')');
            }
            return;
        }
        text.append("pkvwtd".charAt(dice.upTo(6))).append("<=>".charAt(dice.upTo(3))).append(dice.upTo(10));
    }
}
