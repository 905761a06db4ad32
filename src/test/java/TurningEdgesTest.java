/** Promises 27 to 33, 36: each sentence that names a boundary case, by itself. */
public final class TurningEdgesTest {
    private static final String EAST = " voter east low light carries 1 far 0;";
    private static final String WEST = " voter west low light carries 1 far 0;";
    private static final String WIDE = "town wall wide 4 high 12 bond 12; sort weight 1 bears 99 many 60;";
    private static final String NONE_BUT_STONES = "town wall wide 2 high 3 bond 3;"
            + " sort weight 2 bears 99 many 9; sort weight 3 bears 99 many 2; mason 7; = 4\n";

    private TurningEdgesTest() {
    }

    public static void main(String[] args) {
        pivots();
        budgets();
        margins();
        cheapest();
        turns();
        bribes();
        tears();
        powers();
        hundredYears();
        Script.finish();
    }

    private static void pivots() {
        Script.run("promise 27: NONE: none do", WIDE + EAST + WEST + """
             = 4
            lay 0 0 0 = 1
            lay 0 0 0 = 2
            pivot 0 = -1
            pivot 1 = -1
            take 0 0 = 0
            # 2 to 1; without voter 0 it is 1 to 1: nobody
            pivot 0 = 1
            pivot 1 = 1
            """);
        Script.run("promise 27: no voters", WIDE + " = 2\npivot 0 = -1\npivot 1 = -1");
        Script.run("promise 27: no such what", WIDE + EAST + """
             = 3
            pivot -1 = -2
            pivot 2 = -2
            pivot 2147483647 = -2
            pivot -2147483648 = -2
            pivot 0 = 1
            """);
        Script.run("promise 27: FEWEST", WIDE + EAST + EAST + EAST + """
             = 5
            lay 1 0 0 = 1
            # 3 to 1: two; one would leave 2 to 1
            pivot 0 = 2
            pivot 1 = 3
            lay 1 0 0 = 2
            pivot 0 = 1
            pivot 1 = 1
            # 3 to 3 is nobody, and each who stays away makes it west's
            lay 1 0 0 = 3
            pivot 0 = 1
            lay 1 0 0 = 4
            pivot 0 = -1
            """);
        Script.run("promise 27: FEWEST, not the first set", WIDE.replace("60;", "60; sort weight 2 bears 99 many 1;")
                + EAST + EAST + EAST.replace("light carries 1", "heavy carries 2") + " rule heavier; = 7\n" + """
            lay 1 0 0 = 1
            lay 1 0 0 = 2
            # 4 to 2: 0 and 1 leave 2 to 2, and so does 2 alone
            pivot 0 = 1
            pivot 1 = 4
            """);
        Script.run("promises 27, 36: if neither leads, who WON last WINS", WIDE + EAST + EAST + """
             = 4
            lay 0 0 0 = 1
            election 0 = 0
            take 0 0 = 0
            lay 1 0 0 = 1
            # 2 to 1; 1 to 1 is east's still; 0 to 1 is west's
            result 1 = 0
            pivot 0 = 2
            pivot 1 = 3
            # none of the others: 0 to 1, or 1 to 1; the other one: 1 to 1, or 2 to 1
            power 0 = 1
            power 1 = 1
            election 0 = 1
            # west WON last: 1 to 1 is west's
            result 1 = 1
            pivot 0 = 1
            pivot 1 = 1
            power 0 = 1
            """);
        Script.run("promise 27: the least set of several", WIDE + WEST + EAST + WEST + EAST + EAST + """
             = 7
            # 3 to 2: any one of 1, 3, 4
            pivot 0 = 1
            pivot 1 = 2
            lay 0 0 0 = 1
            # 4 to 2: two of them
            pivot 0 = 2
            pivot 1 = 10
            """);
        Script.run("promise 27: all of ten", WIDE + EAST.repeat(10) + """
             = 12
            pivot 0 = 10
            pivot 1 = 1023
            power 9 = 1
            """);
    }

    private static void budgets() {
        Script.run("promise 28: a budget (0 .. 999)", WIDE + EAST.replace("far 0", "far 99").repeat(10) + """
             = 12
            fetch 0 999 = 1023
            # no more than a budget together
            fetch 0 990 = 1023
            fetch 0 989 = 511
            fetch 0 99 = 1
            fetch 0 98 = 0
            fetch 0 0 = 0
            fetch 1 999 = 0
            fetch 0 1000 = -2
            fetch 0 -1 = -2
            fetch 0 2147483647 = -2
            fetch 0 -2147483648 = -2
            fetch -1 0 = -2
            fetch 2 0 = -2
            margin 0 999 = 10
            margin 0 990 = 10
            margin 0 989 = 9
            margin 0 98 = 0
            margin 1 999 = 0
            cheap 0 = 99
            cheap 1 = -1
            count 5 = 0
            pile 0 = 60
            """);
        Script.run("promise 28: a budget of 0", WIDE + EAST + EAST.replace("far 0", "far 1") + """
             = 4
            fetch 0 0 = 1
            fetch 0 1 = 3
            """);
        Script.run("promise 28: of several the least far, then the least set", WIDE
                + EAST.replace("far 0", "far 5") + EAST.replace("far 0", "far 4")
                + EAST.replace("far 0", "far 4") + EAST.replace("0;", "0 from 9;") + """
             = 6
            # one of them: 1 or 2 are nearer than 0; 3 would add nothing
            fetch 0 7 = 2
            fetch 0 8 = 6
            fetch 0 12 = 6
            fetch 0 13 = 7
            """);
        Script.run("promise 28: none come, if that is best", WIDE + WEST + """
             = 3
            fetch 0 999 = 0
            margin 0 999 = 0
            """);
        Script.run("promise 28: no voters", WIDE + " = 2\nfetch 0 999 = 0\nmargin 1 0 = 0\ncheap 0 = -1");
    }

    private static void margins() {
        Script.run("promise 29: below 0: below", WIDE + EAST + """
             = 3
            lay 1 0 0 = 1
            lay 1 0 0 = 2
            lay 1 0 0 = 3
            margin 0 0 = -2
            margin 1 0 = 3
            """);
        Script.run("promise 29: NOTHING, as -2 there", WIDE + EAST + """
             = 3
            margin 0 -1 = -1000000
            margin 0 1000 = -1000000
            margin 0 2147483647 = -1000000
            margin 0 -2147483648 = -1000000
            margin -1 0 = -1000000
            margin 2 0 = -1000000
            margin 2147483647 0 = -1000000
            margin 0 0 = 1
            margin 0 999 = 1
            """);
        WallVotes x = Script.run("promise 29: the greatest weight", """
            town wall wide 8 high 12 bond 12; sort weight 9 bears 99 many 60; sort weight 9 bears 99 many 60; rule heavier; = 4
            """);
        for (int i = 0; i < 96; i++) {
            Script.due("promise 29", "lay", x.lay(1, i % 8, i % 2), i / 8 + 1);
        }
        Script.go(x, "promise 29: the greatest weight", """
            side 1 1 = 864
            margin 0 0 = -864
            margin 1 999 = 864
            """);
    }

    private static void cheapest() {
        Script.run("promise 30: more COUNT; NONE: none does", WIDE + EAST.replace("far 0", "far 3")
                + EAST.replace("far 0", "far 99") + """
             = 4
            # alike is not more
            cheap 1 = -1
            cheap 0 = 3
            lay 1 0 0 = 1
            cheap 1 = 0
            cheap 0 = 102
            lay 1 0 0 = 2
            cheap 0 = -1
            cheap -1 = -2
            cheap 2 = -2
            cheap 2147483647 = -2
            cheap -2147483648 = -2
            """);
    }

    private static void turns() {
        Script.run("promise 31: 0, NONE: it leads; 1 .. 3; -3: three do not", NONE_BUT_STONES + """
            # alike is not leading
            turn 0 0 = 1
            turn 0 1 = 0
            lay 0 0 0 = 1
            turn 0 0 = 0
            turn 0 1 = -1
            turn 1 0 = 2
            turn 1 1 = 0
            lay 0 0 0 = 2
            turn 1 0 = 3
            turn 1 1 = 0
            lay 0 0 0 = 3
            turn 1 0 = -3
            turn 1 1 = -3
            """);
        Script.run("promise 31: there are none such", NONE_BUT_STONES + """
            turn 0 -1 = -2
            turn 0 2 = -2
            turn 0 2147483647 = -2
            turn 0 -2147483648 = -2
            turn -1 0 = -2
            turn 2 0 = -2
            turn 2147483647 1 = -2
            """);
        Script.run("promise 31: of the PILE", """
            town wall wide 2 high 3 bond 3; sort weight 1 bears 99 many 2; sort weight 1 bears 99 many 3; = 3
            lay 1 0 1 = 1
            lay 1 0 1 = 2
            # two of the first, one of the second
            turn 0 0 = 3
            turn 0 1 = 0
            lay 1 1 0 = 1
            lay 0 0 0 = 1
            # 1 to 3: three are to be laid, and one is there
            turn 0 0 = -3
            take 1 0 = 1
            # 1 to 2: two, and two are there, of the second
            turn 0 0 = 2
            turn 0 1 = 1
            """);
        Script.run("promise 31: no SORT, none on the PILE", "town wall wide 2 high 3 bond 3; = 1\n" + """
            turn 0 0 = -3
            bribe 0 = -3
            """);
        Script.run("promise 31: one behind the other as they may", """
            town wall wide 2 high 2 bond 1; sort weight 1 bears 0 many 9; sort weight 2 bears 2 many 9; rule higher; = 4
            lay 1 0 0 = 1
            # to be 2 high: 1 below, something beside it, 0 or 1 on top
            turn 0 0 = 3
            turn 0 1 = 0
            lay 1 1 0 = 1
            lay 0 1 0 = 1
            turn 0 0 = 2
            turn 0 1 = 1
            lay 0 0 0 = 1
            # nothing may be laid on a 0
            turn 0 0 = -3
            """);
        Script.run("promise 31: the last of five SORTS, the last of eight COLUMNS", """
            town wall wide 8 high 1 bond 1; sort weight 1 bears 0 many 7; sort weight 1 bears 0 many 7; sort weight 1 bears 0 many 0; sort weight 1 bears 0 many 0; sort weight 1 bears 0 many 2; mason 1; = 7
            lay 0 0 0 = 1
            lay 0 1 0 = 1
            lay 0 2 0 = 1
            lay 0 3 0 = 1
            lay 0 4 0 = 1
            lay 0 5 0 = 1
            lay 0 6 0 = 1
            lay 1 0 1 = 1
            lay 1 1 1 = 1
            lay 1 2 1 = 1
            lay 1 3 1 = 1
            lay 1 4 1 = 1
            lay 1 5 1 = 1
            lay 1 6 1 = 1
            # 7 to 7, and the last COLUMN of each is free
            turn 0 0 = 1
            turn 0 1 = 74
            turn 1 1 = 74
            bribe 0 = 1
            bribe 1 = 1
            lay 0 7 4 = 1
            turn 1 0 = -3
            bribe 1 = -3
            take 0 7 = 4
            lay 1 7 4 = 1
            # 7 to 8, and one COLUMN
            turn 0 0 = -3
            bribe 0 = -3
            """);
        Script.run("promises 31, 32: at most three STONES", """
            town wall wide 8 high 12 bond 12; sort weight 1 bears 99 many 60; sort weight 9 bears 99 many 3; rule heavier; mason 1; = 5
            lay 1 0 1 = 1
            lay 1 0 1 = 2
            # 18: one of 9 is there, and with two of 1 that is 11
            turn 0 0 = -3
            bribe 0 = -3
            take 1 0 = 1
            # 9: 9 and 1
            turn 0 0 = 2
            turn 0 1 = 0
            bribe 0 = 10
            lay 1 0 0 = 2
            lay 1 0 0 = 3
            # 11: 9 and 9; 9, 1 and 1 are alike with it
            turn 0 0 = 2
            turn 0 1 = 1
            bribe 0 = 18
            lay 1 7 1 = 1
            # 20: one of 9 is there
            turn 0 0 = -3
            bribe 0 = -3
            take 1 0 = 0
            take 1 0 = 0
            take 1 0 = 1
            # 9 with two of 9 on the PILE; 8 more on that: 17
            lay 1 0 0 = 1
            lay 1 1 0 = 1
            lay 1 2 0 = 1
            lay 1 3 0 = 1
            lay 1 4 0 = 1
            lay 1 5 0 = 1
            lay 1 6 0 = 1
            lay 1 6 0 = 2
            turn 0 0 = 2
            turn 0 1 = 1
            lay 1 6 0 = 3
            # 18: 9, 9 and 1
            turn 0 0 = 3
            turn 0 1 = 0
            bribe 0 = 19
            lay 1 6 0 = 4
            # 19: alike is not enough
            turn 0 0 = -3
            bribe 0 = -3
            """);
        Script.run("promises 31, 32: the first SORT is the heaviest", """
            town wall wide 8 high 12 bond 12; sort weight 9 bears 99 many 60; sort weight 1 bears 99 many 60; rule heavier; mason 1; = 5
            lay 1 0 0 = 1
            lay 1 0 0 = 2
            turn 0 0 = 3
            turn 0 1 = 0
            bribe 0 = 19
            """);
        Script.run("promise 31: three of the heaviest, just enough", """
            town wall wide 8 high 12 bond 12; sort weight 1 bears 99 many 60; sort weight 8 bears 99 many 60; sort weight 9 bears 99 many 60; rule heavier; = 5
            lay 1 0 2 = 1
            lay 1 0 2 = 2
            lay 1 0 1 = 3
            turn 0 0 = 3
            turn 0 1 = 2
            bribe 0 = 0
            lay 1 0 0 = 4
            turn 0 0 = -3
            bribe 0 = -3
            """);
        Script.run("promise 31: more than one can't be", "town wall wide 1 high 1 bond 1;"
                + " sort weight 1 bears 9 many 9; = 2\n" + """
            lay 1 0 0 = 1
            turn 0 0 = -3
            take 1 0 = 0
            turn 0 0 = 1
            """);
    }

    private static void bribes() {
        Script.run("promise 32: 0: it does; -3: three do not; -2", NONE_BUT_STONES + """
            # alike is not leading
            bribe 0 = 14
            lay 0 0 0 = 1
            bribe 0 = 0
            bribe 1 = 28
            lay 0 0 0 = 2
            bribe 1 = 42
            lay 0 0 0 = 3
            bribe 1 = -3
            bribe -1 = -2
            bribe 2 = -2
            bribe 2147483647 = -2
            bribe -2147483648 = -2
            """);
        Script.run("III: those a SORT has not on the PILE they have not", """
            town wall wide 2 high 3 bond 3; sort weight 1 bears 99 many 1; sort weight 9 bears 99 many 9; mason 99; = 4
            lay 1 0 1 = 1
            # one of 1 and one of 9
            bribe 0 = 990
            lay 1 0 1 = 2
            bribe 0 = 1881
            take 1 0 = 1
            lay 1 0 0 = 2
            bribe 0 = 2673
            """);
        Script.run("III: mason 0", """
            town wall wide 2 high 3 bond 3; sort weight 9 bears 99 many 3; mason 0; = 3
            bribe 0 = 0
            lay 1 0 0 = 1
            bribe 0 = 0
            lay 1 0 0 = 2
            # one is on the PILE
            bribe 0 = -3
            """);
    }

    private static void tears() {
        Script.run("promise 33: 0: it does; NONE: all do not do; -2", NONE_BUT_STONES + """
            # nothing to nothing
            tear 0 = -1
            tear 1 = -1
            lay 1 0 0 = 1
            tear 0 = -1
            tear 1 = 0
            lay 0 0 0 = 1
            # alike is not leading
            tear 0 = 1
            tear 1 = 1
            lay 1 0 0 = 2
            tear 0 = 2
            rule 1 = 0
            tear 0 = 2
            rule 2 = 1
            tear 0 = 2
            tear 1 = 0
            tear -1 = -2
            tear 2 = -2
            tear 2147483647 = -2
            tear -2147483648 = -2
            """);
        Script.run("promise 33: by higher each COLUMN that is as high as its own highest, or higher", """
            town wall wide 4 high 3 bond 3; sort weight 1 bears 99 many 20; rule higher; = 3
            lay 0 0 0 = 1
            lay 0 0 0 = 2
            lay 1 0 0 = 1
            lay 1 0 0 = 2
            lay 1 0 0 = 3
            lay 1 1 0 = 1
            lay 1 2 0 = 1
            lay 1 2 0 = 2
            # 3 1 2 0 to 1 1 1 0
            tear 0 = 3
            tear 1 = 0
            take 0 0 = 0
            # to nothing
            tear 0 = 6
            take 1 0 = 0
            take 1 0 = 0
            take 1 2 = 0
            # 1 against 1 1 1 0
            tear 0 = 3
            tear 1 = 1
            """);
        WallVotes x = Script.run("promise 33: COLUMNS 0 .. 7 of a SIDE, and no more", """
            town wall wide 8 high 12 bond 12; sort weight 9 bears 99 many 60; sort weight 1 bears 99 many 60; = 3
            """);
        for (int column = 0; column < 8; column++) {
            Script.due("promise 33", "lay", x.lay(0, column, 1), 1);
            Script.due("promise 33", "lay", x.lay(1, column, 0), 1);
        }
        Script.go(x, "promise 33: COLUMNS 0 .. 7 of a SIDE, and no more", """
            tear 0 = 1
            rule 1 = 0
            # 8 to 72: all; 72 to 8 leads
            tear 0 = 8
            tear 1 = 0
            rule 2 = 1
            tear 0 = 8
            tear 1 = 8
            rule 1 = 2
            # 8 to 64: seven of 9 leave 1
            take 1 7 = 0
            lay 1 7 1 = 1
            tear 0 = 7
            lay 0 0 0 = 2
            lay 0 1 0 = 2
            lay 0 2 0 = 2
            # 35 to 64: four of 9 leave 28, three 37
            tear 0 = 4
            """);
        Script.run("promise 33: what lies there now", """
            town wall wide 3 high 3 bond 3; sort weight 1 bears 99 many 9; sort weight 9 bears 99 many 9; rule heavier; = 4
            lay 0 0 0 = 1
            lay 0 1 0 = 1
            lay 1 0 1 = 1
            tear 0 = 1
            take 1 0 = 1
            lay 1 0 0 = 1
            lay 1 1 0 = 1
            lay 1 2 0 = 1
            # 2 to 3 of 1 each
            tear 0 = 2
            """);
        Script.run("promise 33: from the top", """
            town wall wide 2 high 3 bond 3; sort weight 1 bears 99 many 9; sort weight 9 bears 99 many 9; rule heavier; = 4
            lay 1 0 1 = 1
            lay 1 0 0 = 2
            lay 0 0 1 = 1
            # 9 to 10: the 9 lies under the 1
            tear 0 = 2
            lay 1 1 1 = 1
            # 9 to 19: the other 9, and the 1 above the first, leave 9, which is alike; so three
            tear 0 = 3
            take 1 0 = 0
            # 9 to 18
            tear 0 = 2
            lay 0 0 0 = 2
            # 10 to 18: one of 9 is enough
            tear 0 = 1
            """);
    }

    private static void powers() {
        Script.run("promise 36: none, all sets of the others", WIDE + EAST
                + EAST.replace("0;", "0 from 99;").repeat(9) + """
             = 12
            # whoever else comes, nobody WINS without him and east with him
            power 0 = 512
            power 1 = 0
            power 9 = 0
            power 10 = -2
            power -1 = -2
            power 2147483647 = -2
            power -2147483648 = -2
            """);
        Script.run("promise 36: one voter", WIDE + EAST + """
             = 3
            power 0 = 1
            lay 0 0 0 = 1
            power 0 = 0
            take 0 0 = 0
            lay 1 0 0 = 1
            # west's, or 1 to 1: nobody
            power 0 = 1
            election 0 = 1
            power 0 = 0
            power 1 = -2
            """);
    }

    private static void hundredYears() {
        WallVotes x = Script.run("-3", WIDE + EAST + WEST + " = 4\n");
        for (int year = 0; year < 99; year++) {
            x.election(0);
        }
        Script.go(x, "promises 27 to 30, 36: the last YEAR", """
            count 5 = 99
            pivot 0 = 1
            fetch 0 0 = 1
            margin 0 0 = 1
            cheap 0 = 0
            power 0 = 2
            """);
        x.election(0);
        Script.go(x, "promises 27 to 30, 36: -3 likewise, 100 YEARS have gone", """
            count 5 = 100
            pivot 0 = -3
            pivot 1 = -3
            fetch 0 0 = -3
            fetch 1 999 = -3
            margin 0 0 = -1000000
            margin 1 999 = -1000000
            cheap 0 = -3
            cheap 1 = -3
            power 0 = -3
            power 1 = -3
            # there are none such, and 100 YEARS have gone
            pivot 2 = -2
            fetch 2 0 = -2
            fetch 0 1000 = -2
            cheap 2 = -2
            power 2 = -2
            # STONES still turn it
            turn 0 0 = 1
            bribe 0 = 0
            tear 0 = -1
            """);
    }
}
