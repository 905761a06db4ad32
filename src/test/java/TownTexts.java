/** Makes texts of TOWNS, right ones and ones with something wrong in them. */
final class TownTexts {
    private TownTexts() {
    }

    static String sound(Dice dice, boolean small) {
        int wide = dice.from(1, small ? 4 : 8);
        int high = dice.from(small ? 2 : 1, small ? 5 : 12);
        StringBuilder text = new StringBuilder();
        text.append("wall wide ").append(wide).append(" high ").append(high)
                .append(" bond ").append(dice.chance(60) ? dice.from(1, 2) : dice.from(1, 12))
                .append(" ;");
        boolean[] told = new boolean[3];
        int sorts = dice.chance(10) ? 0 : dice.from(1, 5);
        int voters = dice.chance(10) ? 0 : dice.from(1, small ? 6 : 10);
        for (int guard = 0; guard < 60 && (sorts > 0 || voters > 0); guard++) {
            int pick = dice.from(0, 12);
            if (pick < 5 && sorts > 0) {
                sorts--;
                text.append(sort(dice));
            } else if (pick < 10 && voters > 0) {
                voters--;
                text.append(voter(dice, wide));
            } else if (pick >= 10 && !told[pick - 10]) {
                told[pick - 10] = true;
                text.append(pick == 10 ? " rule " + dice.one("more", "heavier", "higher") + " ;"
                        : pick == 11 ? "storm " + dice.from(0, 100) + ";"
                        : " mason " + dice.from(0, 99) + "\n;");
            }
        }
        return text.toString();
    }

    private static String sort(Dice dice) {
        return " sort weight " + dice.from(1, dice.chance(50) ? 4 : 9)
                + " bears " + dice.from(0, dice.chance(50) ? 20 : 99)
                + " many " + dice.from(0, dice.chance(50) ? 8 : 60) + ";";
    }

    private static String voter(Dice dice, int wide) {
        String text = "\nvoter " + dice.one("east", "west", "winner", "loser") + " ";
        text += dice.chance(50) ? dice.one("low", "high") : "near " + dice.from(0, wide - 1);
        text += " " + dice.one("light", "heavy") + " carries" + dice.from(1, 9)
                + " far " + dice.from(0, dice.chance(50) ? 9 : 99);
        int from = 0;
        if (dice.chance(20)) {
            from = dice.from(0, dice.chance(70) ? 3 : 99);
            text += " from " + from;
        }
        if (dice.chance(20)) {
            text += " to " + dice.from(from, dice.chance(70) ? Math.min(99, from + 5) : 99);
        }
        return text + " ;";
    }

    /** The text with one of its numbers changed. */
    private static String number(Dice dice, String text) {
        int at = dice.from(0, text.length() - 1);
        while (at > 0 && !Character.isDigit(text.charAt(at))) {
            at--;
        }
        String in = dice.one("0", "1", "9", "10", "12", "13", "60", "61", "99", "100", "101", "8");
        return text.substring(0, at) + in + text.substring(Math.min(text.length(), at + 1));
    }

    /** A sound text with one or two places changed; by luck it may still be sound. */
    static String spoilt(Dice dice) {
        String text = sound(dice, dice.chance(70));
        if (dice.chance(30)) {
            return number(dice, text);
        }
        if (dice.chance(15)) {
            int end = text.indexOf(';') + 1;
            String line = dice.chance(50) ? "sort weight 1 bears 0 many 0 ;"
                    : "voter east low light carries 1 far 0;";
            return text.substring(0, end) + line.repeat(dice.from(1, 9)) + text.substring(end);
        }
        for (int i = dice.from(1, 2); i > 0; i--) {
            int at = dice.from(0, text.length());
            int until = Math.min(text.length(), at + dice.from(0, 6));
            String in = dice.one("", " ", ";", "7", "100", "wall", "sort", "voter", "rule more ;",
                    "storm 3 ;", "mason 4;", " to 3", " from 4", "near 9", "\t", "x", "\u00e9", "-1",
                    "0", "99999999999999999999", " heavy", "\u0000",
                    " sort weight 1 bears 0 many 0 ;", "rule", " bond 3", "\n");
            text = text.substring(0, at) + in + text.substring(until);
        }
        return text;
    }
}
