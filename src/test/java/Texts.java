/** Texts on a new object, and what town() and fault() must say of them. */
final class Texts {
    private Texts() {
    }

    static void sound(String text, int lines) {
        WallVotes x = new WallVotes();
        Script.write(x, text);
        Script.due("promise 4, " + text, "town()", x.town(), lines);
        Script.due("promise 5, " + text, "fault(0)", x.fault(0), 0);
        Script.due("promise 5, " + text, "fault(1)", x.fault(1), -1);
    }

    static void fault(String text, int kind, int place) {
        WallVotes x = new WallVotes();
        Script.write(x, text);
        Script.due("promise 4, " + text, "town()", x.town(), -4);
        Script.due("promise 5, " + text, "fault(0)", x.fault(0), kind);
        Script.due("promise 5, " + text, "fault(1)", x.fault(1), place);
        Script.due("promise 4, " + text, "count(8)", x.count(8), text.length());
    }

    /** A number that stands for @ in a text: its least, its most, and those beyond them. */
    static void bound(String text, int least, int most) {
        int lines = text.length() - text.replace(";", "").length();
        sound(text.replace("@", "" + least), lines);
        sound(text.replace("@", "" + most), lines);
        fault(text.replace("@", "" + (most + 1)), 2, text.indexOf('@'));
        if (least > 0) {
            fault(text.replace("@", "" + (least - 1)), 2, text.indexOf('@'));
        }
        // numbers that would be in bounds again, if they were cut to 8, 32 or 64 bits
        fault(text.replace("@", "" + (256 + most)), 2, text.indexOf('@'));
        fault(text.replace("@", "" + (4294967296L + most)), 2, text.indexOf('@'));
        fault(text.replace("@", "1844674407370955" + (1616 + most)), 2, text.indexOf('@'));
    }
}
