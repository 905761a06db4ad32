import java.math.BigInteger;

/**
 * Terms IV, V and promises 34, 35, 41 to 44: each sentence that names a boundary case, by itself.
 */
public final class WeatherEdgesTest {
    private static final String STONES = " sort weight 1 bears 99 many 60; sort weight 9 bears 99 many 60;";
    private static final String TWO = "town wall wide 2 high 3 bond 3;" + STONES + " storm 30; = 4\n";

    private WeatherEdgesTest() {
    }

    public static void main(String[] args) {
        emptyWalls();
        oddsAtTheirBounds();
        partsAreCut();
        theLastColumnIsCut();
        sixteenColumns();
        wrongGales();
        means();
        draws();
        stormsOnEmptyWalls();
        wrongSeeds();
        drawsAndOdds();
        yearsGoneThrough();
        hundredYears();
        goingsOn();
        stonesOfBothSides();
        galesOfAnotherTown();
        seedsBeyond();
        Script.finish();
    }

    private static void emptyWalls() {
        Script.run("IV: no COLUMN has STONES", TWO + """
            gale 0 = 0
            gale 1 = 0
            gale 2 = 1000000000000
            falls 0 = 1000000000000
            falls 1 = 0
            falls 16 = 0
            mean 0 = 0
            mean 1 = 0
            """);
        Script.run("IV: and none has any more", TWO + """
            lay 0 0 0 = 1
            falls 1 = 300000000000
            gale 0 = 700000000000
            gale 2 = 300000000000
            take 0 0 = 0
            falls 1 = 0
            gale 2 = 1000000000000
            """);
    }

    private static void oddsAtTheirBounds() {
        Script.run("IV: odds 0", TWO.replace("30", "0") + """
            lay 0 0 0 = 1
            lay 1 0 0 = 1
            lay 1 1 0 = 1
            falls 0 = 1000000000000
            falls 1 = 0
            falls 3 = 0
            gale 1 = 1000000000000
            gale 2 = 0
            mean 1 = 2000
            """);
        Script.run("IV: odds 100, the highest one of each COLUMN alone", TWO.replace("30", "100") + """
            lay 0 0 0 = 1
            lay 0 0 1 = 2
            lay 1 0 0 = 1
            lay 1 1 0 = 1
            falls 3 = 1000000000000
            falls 2 = 0
            falls 0 = 0
            # 1 to 0
            gale 0 = 1000000000000
            mean 0 = 1000
            mean 1 = 0
            rule 1 = 0
            # the 9 is gone, the 1 below it not
            mean 0 = 1000
            # in thought
            side 0 0 = 2
            side 1 0 = 2
            """);
    }

    /**
     * Of seven COLUMNS with odds 1 the first six divide 10 to the 12 without a rest: 99 to the power
     * of those that stand. A hundredth of these is cut at the seventh.
     */
    private static void partsAreCut() {
        Script.run("IV: times odds by 100, cut, have it fallen, the rest not", """
            town wall wide 4 high 1 bond 1; sort weight 1 bears 0 many 9; storm 1; = 3
            lay 0 0 0 = 1
            lay 0 1 0 = 1
            lay 0 2 0 = 1
            lay 0 3 0 = 1
            lay 1 0 0 = 1
            lay 1 1 0 = 1
            # six: all have fallen on one PART
            falls 6 = 1
            falls 5 = 594
            lay 1 2 0 = 1
            # a hundredth of it is none
            falls 7 = 0
            falls 6 = 1
            # 6 times 99, and 15 times the hundredth of 9,801
            falls 5 = 2064
            """);
    }

    /** What a cut takes from the seventh COLUMN: 32 PARTS of 10 to the 10 (see partsAreCut). */
    private static void theLastColumnIsCut() {
        String town = "town wall wide 7 high 3 bond 3; sort weight 1 bears 99 many 60;"
                + " sort weight 9 bears 99 many 9; sort weight 4 bears 99 many 9;"
                + " sort weight 5 bears 99 many 9; storm 1; rule heavier; = 7\n";
        StringBuilder six = new StringBuilder();
        for (int column = 0; column < 6; column++) {
            six.append("lay 0 ").append(column).append(" 0 = 1\nlay 0 ").append(column).append(" 0 = 2\n");
        }
        Script.run("IV: COLUMN by COLUMN (east first)", town + six + """
            # east 6 to 12; west, the seventh, 13 or 4
            lay 1 0 2 = 1
            lay 1 0 1 = 2
            gale 0 = 9999999968
            gale 1 = 990000000032
            gale 2 = 0
            """);
        Script.run("IV: COLUMN by COLUMN, the first of a SIDE first", town + six + """
            # the seventh is east's last: 10 or 1 to 6 to 12; west has 15 or 14
            lay 0 6 0 = 1
            lay 0 6 1 = 2
            lay 1 0 1 = 1
            lay 1 0 3 = 2
            lay 1 0 0 = 3
            gale 0 = 990000000032
            gale 1 = 9999999968
            """);
    }

    private static void sixteenColumns() {
        WallVotes x = Script.run("promise 35: sixteen", "town wall wide 8 high 2 bond 2;" + STONES
                + " storm 50; = 4\n");
        for (int i = 0; i < 16; i++) {
            Script.due("promise 35", "lay", x.lay(i / 8, i % 8, 0), 1);
        }
        // 10 to the 12 by 2 to the 12 is the last without a rest: 244,140,625
        long all = 0;
        for (int n = 0; n <= 16; n++) {
            all += x.falls(n);
        }
        Script.due("promise 35", "all together", all, 1000000000000L);
        Script.due("promise 34", "all together", x.gale(0) + x.gale(1) + x.gale(2), 1000000000000L);
        // 122,070,312, 61,035,156, 30,517,578, 15,258,789: each cut
        Script.go(x, "promise 35: all sixteen", """
            falls 16 = 15258789
            falls 17 = -2
            """);
    }

    private static void wrongGales() {
        Script.run("promises 34, 35, 41: -2", TWO + """
            gale -1 = -2
            gale 3 = -2
            gale 2147483647 = -2
            gale -2147483648 = -2
            falls -1 = -2
            falls 17 = -2
            falls 2147483647 = -2
            falls -2147483648 = -2
            mean -1 = -2
            mean 2 = -2
            mean 2147483647 = -2
            mean -2147483648 = -2
            """);
    }

    private static void means() {
        Script.run("promise 41: by 10 to the 9, cut", """
            town wall wide 6 high 1 bond 1; sort weight 1 bears 0 many 9; rule higher; storm 33; = 4
            lay 0 0 0 = 1
            lay 0 1 0 = 1
            lay 0 2 0 = 1
            lay 0 3 0 = 1
            lay 0 4 0 = 1
            lay 0 5 0 = 1
            # 1 less 33 to the 6 of 10 to the 12: 998,708,532,031
            falls 6 = 1291467969
            gale 0 = 998708532031
            mean 0 = 998
            """);
        WallVotes x = Script.run("promise 41: the most", "town wall wide 8 high 12 bond 12;"
                + " sort weight 9 bears 99 many 60; sort weight 9 bears 99 many 60; rule heavier; = 4\n");
        for (int i = 0; i < 96; i++) {
            Script.due("promise 41", "lay", x.lay(0, i % 8, i % 2), i / 8 + 1);
        }
        Script.go(x, "promise 41: the most", "mean 0 = 864000\nmean 1 = 0\ngale 0 = 1000000000000");
    }

    private static int[] drawsFrom(long seed, int many) {
        BigInteger x = BigInteger.valueOf(seed);
        int[] drawn = new int[many];
        for (int i = 0; i < many; i++) {
            x = x.multiply(BigInteger.valueOf(1103515245L)).add(BigInteger.valueOf(12345L))
                    .mod(BigInteger.valueOf(2147483648L));
            drawn[i] = x.divide(BigInteger.valueOf(65536L)).mod(BigInteger.valueOf(100L)).intValue();
        }
        return drawn;
    }

    private static void draws() {
        Script.due("V: the draws from 0", "the fifth", drawsFrom(0, 5)[4], 98);
        int[] seeds = {0, 1, 2, 65535, 65536, 12345, 1073741824, 1999999999, 2000000000};
        for (int seed : seeds) {
            for (int odds = 0; odds <= 100; odds++) {
                stormOverSixteen(seed, odds);
            }
        }
    }

    private static void stormOverSixteen(int seed, int chance) {
        String name = "V: from " + seed + ", odds " + chance;
        WallVotes x = Script.run(name, "town wall wide 8 high 2 bond 2;" + STONES + " storm " + chance
                + "; = 4\n");
        for (int i = 0; i < 16; i++) {
            x.lay(i / 8, i % 8, 0);
        }
        int[] drawn = drawsFrom(seed, 16);
        int fell = 0;
        for (int draw : drawn) {
            fell += draw < chance ? 1 : 0;
        }
        Script.due(name, "storm", x.storm(seed), fell);
        for (int i = 0; i < 16; i++) {
            Script.due(name, "COLUMN " + i, x.stone(i / 8, i % 8, 0, 0), drawn[i] < chance ? -1 : 0);
        }
        Script.due(name, "pile(0)", x.pile(0), 44 + fell);
    }

    private static void stormsOnEmptyWalls() {
        Script.run("V: no COLUMN has STONES", TWO.replace("30", "100") + """
            storm 0 = 0
            storm 2000000000 = 0
            pile 0 = 60
            """);
        Script.run("V: a COLUMN that has none has no draw", TWO.replace("30", "1") + """
            # the first draw from 0 is 0, the second 68
            lay 1 1 0 = 1
            lay 1 1 0 = 2
            storm 0 = 1
            # one of it alone, to the PILE
            side 1 0 = 1
            pile 0 = 59
            # the draws begin at the seed each time
            storm 0 = 1
            side 1 0 = 0
            pile 0 = 60
            storm 0 = 0
            """);
    }

    private static void wrongSeeds() {
        Script.run("promise 42: a seed (0 .. 2,000,000,000); -2", TWO.replace("30", "100") + """
            lay 0 0 0 = 1
            storm -1 = -2
            storm 2000000001 = -2
            storm 2147483647 = -2
            storm -2147483648 = -2
            side 0 0 = 1
            storm 2000000000 = 1
            lay 0 0 0 = 1
            storm 0 = 1
            """);
    }

    private static void drawsAndOdds() {
        // from 0 the second draw is 68
        String two = "lay 0 0 0 = 1\nlay 0 1 0 = 1\n";
        Script.run("V: if it is below odds: it is", TWO.replace("30", "69") + two + "storm 0 = 2");
        Script.run("V: if it is below odds: alike", TWO.replace("30", "68") + two + "storm 0 = 1");
        // from 0 the first draw is 0
        Script.run("V: 0 is below 1", TWO.replace("30", "1") + two + "storm 0 = 1");
        Script.run("V: 0 is not below 0", TWO.replace("30", "0") + two + "storm 0 = 0");
    }

    private static void yearsGoneThrough() {
        String town = TWO.replace("storm 30;", "voter east low light carries 1 far 0;");
        Script.run("promise 43: n YEARS (1 .. 30); -2", town + """
            run 0 0 = -2
            run 0 -1 = -2
            run 0 31 = -2
            run 0 2147483647 = -2
            run 0 -2147483648 = -2
            run -1 1 = -2
            run 2000000001 1 = -2
            run 2147483647 1 = -2
            count 5 = 0
            side 0 0 = 0
            run 2000000000 1 = 1
            count 5 = 1
            run 0 30 = 30
            count 5 = 31
            # there is room for six
            side 0 0 = 6
            votes 5 0 = 1
            votes 6 0 = 0
            won 30 = 0
            """);
        Script.run("V: a STORM, then an ELECTION to which all come", town.replace("far 0;",
                "far 0; voter west low light carries 1 far 0 from 1; storm 100;").replace("= 4", "= 6") + """
            # each YEAR all that lies falls, and what is laid then stays to the next
            lay 1 0 0 = 1
            run 0 1 = 1
            side 0 0 = 1
            side 1 0 = 0
            # 1 to 1: east WON last
            run 0 1 = 1
            side 0 0 = 1
            side 1 0 = 1
            lost = 1
            """);
        Script.run("V: draws go on", TWO.replace("30;", "50; voter east near 0 light carries 1 far 0;")
                .replace("= 4", "= 5") + """
            lay 1 0 0 = 1
            lay 1 0 0 = 2
            lay 1 0 0 = 3
            lay 1 1 0 = 1
            # YEAR 0: 0, 68: 1 to 3. YEAR 1: 88, 17, 98: 2 to 2. YEAR 2: 27, 45, 41: 2 to 0
            run 0 3 = 1
            won 0 = 1
            won 1 = 1
            won 2 = 0
            side 0 0 = 2
            side 1 0 = 0
            """);
    }

    private static void hundredYears() {
        String town = TWO.replace("storm 30;", "voter west low light carries 1 far 0;");
        Script.run("promises 43, 44: -3: there would be more than 100", town + """
            run 0 30 = 0
            run 0 30 = 0
            run 0 10 = 0
            count 5 = 70
            runs 0 1 30 1 = 1
            keep 0 = 0
            run 0 30 = 0
            count 5 = 100
            won 99 = 1
            run 0 1 = -3
            runs 0 1 1 0 = -3
            back 0 = 0
            election 0 = 1
            count 5 = 71
            run 0 30 = -3
            runs 0 1 30 1 = -3
            # there are none such, and there would be more than 100
            run 0 31 = -2
            run -1 30 = -2
            runs 0 1 30 3 = -2
            runs 0 21 30 0 = -2
            runs 0 0 30 0 = -2
            count 5 = 71
            runs 0 20 29 1 = 20
            run 0 29 = 0
            count 5 = 100
            """);
    }

    private static void goingsOn() {
        String town = TWO.replace("storm 30;", "voter east low light carries 1 far 0;");
        Script.run("promise 44: many (1 .. 20), n, what; -2", town + """
            runs 0 0 1 0 = -2
            runs 0 21 1 0 = -2
            runs 0 -1 1 0 = -2
            runs 0 2147483647 1 0 = -2
            runs 0 1 0 0 = -2
            runs 0 1 31 0 = -2
            runs 0 1 -1 0 = -2
            runs 0 1 -2147483648 0 = -2
            runs 0 1 1 -1 = -2
            runs 0 1 1 3 = -2
            runs 0 1 1 2147483647 = -2
            runs -1 1 1 0 = -2
            runs 2000000001 1 1 0 = -2
            runs 0 1 1 0 = 1
            runs 0 20 30 0 = 20
            runs 0 20 30 1 = 0
            runs 0 20 30 2 = 120
            # in thought
            count 5 = 0
            side 0 0 = 0
            pile 0 = 60
            lost = 0
            """);
        Script.run("promise 44: neither WON", TWO + """
            runs 0 20 5 0 = 0
            runs 0 20 5 1 = 0
            runs 0 20 5 2 = 0
            """);
        Script.run("promise 44: the seed and 1, ..", TWO.replace("30", "39") + """
            lay 0 0 0 = 1
            # the first draws of 0, 1, 2, 3: 0, 38, 8, 47
            runs 0 1 1 2 = 0
            runs 0 3 1 2 = 0
            runs 0 4 1 2 = 1
            runs 3 1 1 0 = 1
            runs 2 1 1 0 = 0
            """);
    }

    private static void stonesOfBothSides() {
        Script.run("promise 44: STONES in the WALL then, of both SIDES", TWO.replace("storm 30;",
                "voter east low light carries 1 far 0; voter west low light carries 1 far 0;")
                .replace("= 4", "= 5") + """
            lay 1 0 0 = 1
            runs 0 1 1 2 = 3
            runs 0 20 2 2 = 100
            runs 0 1 30 2 = 12
            """);
    }

    /** All that the PARTS come from is another one. */
    private static void galesOfAnotherTown() {
        Script.run("IV: of another TOWN", TWO + """
            lay 0 0 0 = 1
            gale 0 = 700000000000
            falls 1 = 300000000000
            keep 0 = 0
            """ + TWO.replace("30;", "60; rule higher;").replace("= 4", "= 5") + """
            lay 0 0 0 = 1
            lay 0 0 0 = 2
            lay 0 1 0 = 1
            lay 0 1 0 = 2
            lay 1 0 0 = 1
            lay 1 0 0 = 2
            # alike if both of east fall and west's, or one stands and west's: 216 and 640 times 400
            falls 3 = 216000000000
            gale 2 = 472000000000
            # east's two fall, west's does not
            gale 1 = 144000000000
            back 0 = 0
            gale 0 = 700000000000
            falls 1 = 300000000000
            falls 3 = 0
            mean 0 = 700
            mean 1 = 0
            """);
    }

    private static void seedsBeyond() {
        // the first draws from 2,000,000,000 on
        int stay = 0;
        for (int i = 0; i < 20; i++) {
            stay += drawsFrom(2000000000L + i, 1)[0] < 30 ? 0 : 1;
        }
        WallVotes x = Script.run("promise 44: from the last seed", TWO + "lay 0 0 0 = 1");
        Script.due("promise 44: from the last seed", "runs", x.runs(2000000000, 20, 1, 2), stay);
        Script.due("promise 44: from the last seed", "runs", x.runs(2000000000, 20, 1, 0), stay);
    }
}
