/** Promises 34, 35, 41 to 44: GALES, STORMS, YEARS gone through. */
public final class WeatherTest {
    private WeatherTest() {
    }

    public static void main(String[] args) {
        gales();
        cutParts();
        storms();
        years();
        goingsOn();
        Script.finish();
    }

    private static void gales() {
        Script.run("promises 34, 35, 41", """
            town wall wide 2 high 3 bond 3; sort weight 1 bears 9 many 9; sort weight 5 bears 9 many 2; storm 30; = 4
            # nothing can fall
            gale 0 = 0
            gale 1 = 0
            gale 2 = 1000000000000
            falls 0 = 1000000000000
            falls 1 = 0
            mean 0 = 0
            lay 0 0 0 = 1
            lay 1 0 0 = 1
            gale 0 = 210000000000
            gale 1 = 210000000000
            gale 2 = 580000000000
            gale 3 = -2
            gale -1 = -2
            falls 0 = 490000000000
            falls 1 = 420000000000
            falls 2 = 90000000000
            falls 3 = 0
            falls 16 = 0
            falls 17 = -2
            falls -1 = -2
            mean 0 = 700
            mean 1 = 700
            mean 2 = -2
            mean -1 = -2
            side 0 0 = 1
            lay 0 1 1 = 1
            lay 0 1 0 = 2
            # more: east has 3, less two at most; it leads but for 1 to 1
            gale 0 = 937000000000
            gale 1 = 0
            gale 2 = 63000000000
            mean 0 = 2400
            falls 3 = 27000000000
            # heavier: 7 less 1 and 1
            rule 1 = 0
            mean 0 = 6400
            mean 1 = 700
            gale 0 = 1000000000000
            # higher: 2 or 1 against 1 or 0
            rule 2 = 1
            mean 0 = 1700
            gale 0 = 790000000000
            gale 1 = 0
            gale 2 = 210000000000
            take 0 1 = 0
            take 0 0 = 0
            # 1 or 0 against 1 or 0
            gale 0 = 210000000000
            gale 2 = 580000000000
            rule 1 = 2
            # 5 or 0 against 1 or 0
            gale 0 = 700000000000
            gale 1 = 210000000000
            gale 2 = 90000000000
            mean 0 = 3500
            """);
        Script.run("odds 0", """
            town wall wide 2 high 3 bond 3; sort weight 1 bears 9 many 9; = 2
            lay 0 0 0 = 1
            lay 0 0 0 = 2
            gale 0 = 1000000000000
            falls 0 = 1000000000000
            falls 1 = 0
            mean 0 = 2000
            storm 0 = 0
            """);
        Script.run("odds 100", """
            town wall wide 2 high 3 bond 3; sort weight 1 bears 9 many 9; storm 100; = 3
            lay 0 0 0 = 1
            lay 0 1 0 = 1
            lay 1 0 0 = 1
            lay 1 0 0 = 2
            gale 0 = 0
            gale 1 = 1000000000000
            falls 3 = 1000000000000
            falls 2 = 0
            mean 0 = 0
            mean 1 = 1000
            storm 5 = 3
            side 0 0 = 0
            side 1 0 = 1
            pile 0 = 8
            """);
    }

    /** 33 to the 7 by 100 to the 7 of all PARTS is no whole number, so the last COLUMN's is cut. */
    private static void cutParts() {
        Script.run("promise 35, cut", """
            town wall wide 4 high 1 bond 1; sort weight 1 bears 0 many 9; storm 33; = 3
            lay 0 0 0 = 1
            lay 0 1 0 = 1
            lay 0 2 0 = 1
            lay 0 3 0 = 1
            lay 1 0 0 = 1
            lay 1 1 0 = 1
            lay 1 2 0 = 1
            falls 7 = 426184429
            falls 6 = 6056984774
            falls 8 = 0
            # 4 and 3 times 67 of a hundred; the last one's parts are cut, so it stands a bit more
            mean 0 = 2680
            mean 1 = 2010
            """);
        // sixteen COLUMNS, all that there can be: whatever is cut, no PART is lost
        WallVotes x = Script.run("promise 35, sixteen", """
            town wall wide 8 high 1 bond 1; sort weight 1 bears 0 many 16; storm 37; = 3
            """);
        for (int i = 0; i < 16; i++) {
            Script.due("promise 35", "lay", x.lay(i / 8, i % 8, 0), 1);
        }
        long all = 0;
        for (int n = 0; n <= 16; n++) {
            all += x.falls(n);
        }
        Script.due("promise 35", "all of falls(n)", all, 1000000000000L);
        Script.due("promise 34", "all of gale(what)", x.gale(0) + x.gale(1) + x.gale(2), 1000000000000L);
        long parts = 1000000000000L;
        for (int i = 0; i < 16; i++) {
            parts = parts * 37 / 100;
        }
        Script.due("promise 35", "falls(16)", x.falls(16), parts);
    }

    /** The draws from 0: 0, 68, 88, 17, 98, 27, ..; from 2,000,000,000: 4, 33, 21, 7, 26, 92, .. */
    private static void storms() {
        String town = "town wall wide 3 high 3 bond 3; sort weight 1 bears 9 many 9;"
                + " sort weight 2 bears 9 many 9; storm 27; = 4\n";
        Script.run("promise 42", town + """
            lay 0 0 0 = 1
            lay 0 2 1 = 1
            lay 0 2 0 = 2
            lay 1 0 0 = 1
            lay 1 1 0 = 1
            lay 1 1 1 = 2
            lay 1 2 0 = 1
            # the COLUMN that has no STONE has no draw: 0, 68, 88, 17, 98
            storm 0 = 2
            side 0 0 = 2
            stone 0 2 1 0 = 0
            stone 1 0 0 0 = 0
            stone 1 1 0 0 = 0
            stone 1 1 1 0 = -1
            stone 1 2 0 0 = 0
            pile 0 = 5
            pile 1 = 8
            # 4, 33, 21, 7
            storm 2000000000 = 3
            stone 0 2 1 0 = -1
            stone 0 2 0 0 = 1
            stone 1 0 0 0 = 0
            stone 1 1 0 0 = -1
            stone 1 2 0 0 = -1
            storm -1 = -2
            storm 2000000001 = -2
            count 5 = 0
            """);
        Script.run("promise 42: a draw that is odds does not fall", """
            town wall wide 3 high 3 bond 3; sort weight 1 bears 9 many 9; storm 68; = 3
            lay 0 0 0 = 1
            lay 0 1 0 = 1
            storm 0 = 1
            stone 0 0 0 0 = -1
            stone 0 1 0 0 = 0
            """);
        Script.run("promise 42: with odds 69 it does", """
            town wall wide 3 high 3 bond 3; sort weight 1 bears 9 many 9; storm 69; = 3
            lay 0 0 0 = 1
            lay 0 1 0 = 1
            storm 0 = 2
            lost = 0
            """);
        Script.run("promises 23, 42: votes that a STORM takes are lost", """
            town wall wide 3 high 3 bond 3; sort weight 1 bears 9 many 9; storm 69; voter west near 1 light carries 1 far 0; = 4
            election 1 = 1
            lay 0 0 0 = 1
            # 0 for east's, 68 for west's
            storm 0 = 2
            lost = 1
            still 0 1 = 0
            votes 0 1 = 1
            pile 0 = 9
            """);
    }

    private static void years() {
        Script.run("promise 43", """
            town wall wide 2 high 9 bond 9; sort weight 1 bears 99 many 60; voter east low light carries 1 far 0; voter west low light carries 1 far 0 from 2; voter west low light carries 1 far 0 from 2; voter west low light carries 1 far 0 from 3; = 6
            # east by 1, 2, 3 to 2, then 4 to 5, 5 to 8
            run 0 5 = 3
            count 5 = 5
            won 0 = 0
            won 2 = 0
            won 3 = 1
            votes 4 1 = 3
            side 0 0 = 5
            side 1 0 = 8
            run 0 0 = -2
            run 0 31 = -2
            run -1 1 = -2
            run 2000000001 1 = -2
            run 2000000000 30 = 0
            count 5 = 35
            run 0 30 = 0
            run 0 30 = 0
            count 5 = 95
            run 0 6 = -3
            runs 0 1 6 0 = -3
            count 5 = 95
            runs 0 1 5 1 = 1
            run 0 5 = 0
            count 5 = 100
            run 0 1 = -3
            """);
        // the draws from 0: 0, 68, 88, 17, 98, 27, 45, 41, 22, 10 ..; they go on from YEAR to YEAR
        Script.run("promise 43: a STORM, then an ELECTION", """
            town wall wide 3 high 9 bond 9; sort weight 1 bears 99 many 60; voter west near 0 light carries 1 far 0; voter east near 2 light carries 1 far 0 to 1; storm 20; = 5
            lay 1 1 0 = 1
            # YEAR 0: 0 is west's at 1: it falls, then one each: nobody
            # YEAR 1: 68, 88: two each. YEAR 2: 17 is east's, 98: 1 to 3. YEAR 3: 27, 45: 1 to 4
            run 0 4 = 0
            won 0 = 2
            won 1 = 2
            won 2 = 1
            won 3 = 1
            side 0 0 = 1
            side 1 0 = 4
            stone 1 1 0 0 = -1
            lost = 1
            # the draws of the next begin at their seed: 0 is east's
            run 0 1 = 0
            side 0 0 = 0
            side 1 0 = 5
            """);
    }

    private static void goingsOn() {
        Script.run("promise 44", """
            town wall wide 3 high 9 bond 9; sort weight 1 bears 99 many 60; voter west near 0 light carries 1 far 0; voter east near 0 light carries 1 far 0; storm 39; = 5
            lay 0 0 0 = 1
            # seeds 0, 1, 2 draw 0, 38 and 8 for it: it falls in each, so it is 1 to 1: nobody
            runs 0 3 1 0 = 0
            runs 0 3 1 1 = 0
            runs 0 3 1 2 = 6
            # 42 from 2,000,000,001 and 4 from 2,000,000,000
            runs 2000000000 2 1 0 = 1
            runs 2000000000 2 1 1 = 0
            runs 2000000000 2 1 2 = 5
            count 5 = 0
            side 0 0 = 1
            pile 0 = 59
            # from 7: 64, 6, 68: it stays, 2 to 1; 6 takes one of east's, 68: 2 to 2: east WON last
            runs 7 1 2 0 = 1
            runs 7 1 2 1 = 0
            runs 7 1 2 2 = 4
            runs 0 0 1 0 = -2
            runs 0 21 1 0 = -2
            runs 0 20 1 3 = -2
            runs 0 20 1 -1 = -2
            runs 0 20 0 0 = -2
            runs 0 20 31 0 = -2
            runs -1 20 1 0 = -2
            runs 2000000001 1 1 0 = -2
            runs 0 20 30 3 = -2
            """);
        Script.run("promise 44 without a STORM", """
            town wall wide 3 high 9 bond 9; sort weight 1 bears 99 many 60; voter west near 0 light carries 1 far 0; = 3
            runs 0 20 30 1 = 20
            runs 0 20 30 0 = 0
            # 27 COLUMNS' worth of room: three of nine
            runs 0 20 30 2 = 540
            runs 0 1 1 2 = 1
            """);
    }
}
