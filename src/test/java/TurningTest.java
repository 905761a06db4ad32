/** Promises 27 to 33, 36: who turns it, whom to fetch, how few STONES, masons, tearing down. */
public final class TurningTest {
    private static final String FOUR = "town wall wide 3 high 4 bond 4;"
            + " sort weight 1 bears 20 many 20; sort weight 3 bears 20 many 5;"
            + " voter east low light carries 1 far 10; voter east low light carries 1 far 4;"
            + " voter west low light carries 1 far 3; voter west low heavy carries 3 far 7; = 7\n";

    private TurningTest() {
    }

    public static void main(String[] args) {
        pivotsAndPower();
        fetching();
        turning();
        bribing();
        tearing();
        Script.finish();
    }

    private static void pivotsAndPower() {
        Script.run("promises 27, 36", FOUR + """
            # 2 to 2: nobody, and whoever stays away turns it
            pivot 0 = 1
            pivot 1 = 1
            pivot 2 = -2
            pivot -1 = -2
            lay 0 0 0 = 1
            lay 0 0 0 = 2
            # 4 to 2: both of east must stay away
            pivot 0 = 2
            pivot 1 = 3
            # without 1, with 2 and 3 it is 2 to 2; that alone voter 0 turns
            power 0 = 1
            power 1 = 1
            power 2 = 1
            power 3 = 1
            power 4 = -2
            power -1 = -2
            count 5 = 0
            side 0 0 = 2
            side 1 0 = 0
            pile 0 = 18
            election 0 = 0
            # now that east WON last, 2 to 2 is east's
            pivot 0 = -1
            pivot 1 = -1
            power 0 = 0
            lay 1 0 0 = 1
            # 4 to 3; 2 to 3 is the other one's: those who voted for east
            pivot 0 = 2
            pivot 1 = 3
            # of sets of 1, 2, 3 just that of 2 and 3 is turned: 2 to 3, or 3 to 3
            power 0 = 1
            # of sets of 0, 1, 2 just that of 2: 2 to 2, or 2 to 3
            power 3 = 1
            rule 1 = 0
            # heavier: 4 to 5
            result 15 = 1
            pivot 0 = 1
            pivot 1 = 4
            # of sets of 0, 1, 2: 2 to 4, 3 to 4 twice, 2 to 5, 3 to 5 twice, 4 to 5; not 4 to 4
            power 3 = 7
            # of sets of 1, 2, 3 just that of 1 and 3: 3 to 4, or 4 to 4
            power 0 = 1
            """);
        Script.run("promise 27: the fewest, then the least set", """
            town wall wide 2 high 9 bond 9; sort weight 1 bears 20 many 20; voter west low light carries 1 far 0 from 1; voter west low light carries 1 far 0; voter west low light carries 1 far 0; voter west low light carries 1 far 0; = 6
            lay 0 0 0 = 1
            # voter 0 may not vote this YEAR: 1 to 3
            pivot 0 = 2
            pivot 1 = 6
            power 0 = 0
            lay 0 0 0 = 2
            pivot 0 = 1
            pivot 1 = 2
            """);
        Script.run("promise 27 without voters", """
            town wall wide 2 high 9 bond 9; = 1
            pivot 0 = -1
            pivot 1 = -1
            fetch 0 0 = 0
            margin 0 0 = 0
            cheap 0 = -1
            power 0 = -2
            result 0 = 2
            result 1 = -2
            """);
    }

    private static void fetching() {
        Script.run("promises 28 to 30", FOUR + """
            lay 0 0 0 = 1
            lay 0 0 0 = 2
            fetch 0 14 = 3
            margin 0 14 = 4
            fetch 0 999 = 3
            margin 0 999 = 4
            # the nearer one of two by which it is as much
            fetch 0 13 = 2
            margin 0 13 = 3
            fetch 0 4 = 2
            fetch 0 3 = 0
            margin 0 3 = 2
            fetch 0 0 = 0
            fetch 1 10 = 12
            margin 1 10 = 0
            fetch 1 9 = 4
            margin 1 9 = -1
            fetch 1 2 = 0
            margin 1 2 = -2
            fetch 0 -1 = -2
            fetch 0 1000 = -2
            fetch 2 0 = -2
            fetch -1 0 = -2
            margin 0 -1 = -1000000
            margin 0 1000 = -1000000
            margin 2 0 = -1000000
            cheap 0 = 0
            cheap 1 = -1
            cheap 2 = -2
            cheap -1 = -2
            rule 1 = 0
            cheap 1 = 7
            fetch 1 7 = 8
            margin 1 7 = 1
            fetch 1 10 = 12
            margin 1 10 = 2
            rule 2 = 1
            # one STONE on each lowest COLUMN makes none higher: the nearest set is nobody
            fetch 0 999 = 0
            margin 0 999 = 2
            cheap 0 = 0
            count 5 = 0
            side 0 0 = 2
            pile 1 = 5
            """);
        Script.run("promise 28: of those as far the least set", """
            town wall wide 2 high 9 bond 9; sort weight 1 bears 20 many 20; voter west low light carries 1 far 2; voter east low light carries 1 far 2; voter east low light carries 1 far 2; voter east low light carries 1 far 0 from 1; = 6
            fetch 0 2 = 2
            fetch 0 3 = 2
            fetch 0 4 = 6
            margin 0 4 = 2
            fetch 1 5 = 1
            cheap 0 = 2
            cheap 1 = 2
            lay 1 0 0 = 1
            cheap 0 = 4
            cheap 1 = 0
            lay 1 0 0 = 2
            cheap 0 = -1
            election 0 = 1
            # voter 3, who is not far, may vote now
            cheap 0 = 4
            fetch 0 0 = 8
            fetch 0 2 = 10
            fetch 0 999 = 14
            """);
    }

    private static void turning() {
        Script.run("promises 31, 32", """
            town wall wide 2 high 4 bond 1; sort weight 1 bears 1 many 3; sort weight 4 bears 9 many 2; mason 5; rule heavier; = 5
            turn 0 0 = 1
            turn 0 1 = 0
            bribe 0 = 5
            lay 1 0 1 = 1
            lay 1 1 0 = 1
            # 5 to beat by 1, 1 and 4: the 4 bears the 1, and what is under the 4 does not bear it
            turn 0 0 = 3
            turn 0 1 = 0
            bribe 0 = 30
            turn 1 0 = 0
            turn 1 1 = -1
            bribe 1 = 0
            turn 0 2 = -2
            turn 0 -1 = -2
            turn 2 0 = -2
            turn -1 0 = -2
            bribe 2 = -2
            bribe -1 = -2
            take 1 1 = 0
            turn 0 0 = 2
            turn 0 1 = 0
            bribe 0 = 25
            lay 1 1 1 = 1
            # the PILE has three of weight 1
            turn 0 0 = -3
            turn 0 1 = -3
            bribe 0 = -3
            side 0 0 = 0
            pile 0 = 3
            """);
        Script.run("promise 31: rows by their numbers", """
            town wall wide 3 high 4 bond 1; sort weight 1 bears 0 many 9; sort weight 3 bears 9 many 3; sort weight 2 bears 1 many 1; rule higher; = 5
            lay 1 0 1 = 1
            # 2 high is to be reached, with one beside it: 1, 10, 0, for nothing may come on a 0
            turn 0 0 = 3
            turn 0 1 = 1
            lay 0 1 0 = 1
            turn 0 0 = 2
            # 0 and then nothing on it; so 1, and 0 on it
            turn 0 1 = 1
            lay 0 0 1 = 1
            turn 0 0 = 1
            turn 0 1 = 0
            lay 0 0 0 = 2
            turn 0 0 = 0
            turn 0 1 = -1
            """);
        Script.run("promise 31: more", """
            town wall wide 1 high 12 bond 1; sort weight 1 bears 9 many 3; sort weight 1 bears 9 many 3; = 3
            lay 1 0 0 = 1
            turn 0 0 = 2
            lay 1 0 0 = 2
            turn 0 0 = 3
            lay 1 0 0 = 3
            turn 0 0 = -3
            turn 0 1 = -3
            lay 0 0 1 = 1
            # the PILE has none of the first SORT
            turn 0 0 = -3
            take 1 0 = 0
            turn 0 0 = 2
            turn 0 1 = 0
            lay 1 0 1 = 3
            turn 0 0 = -3
            take 1 0 = 1
            lay 0 0 0 = 2
            turn 0 0 = 1
            turn 0 1 = 1
            """);
    }

    private static void bribing() {
        Script.run("promise 32", """
            town wall wide 2 high 4 bond 1; sort weight 1 bears 3 many 5; sort weight 4 bears 9 many 2; mason 5; rule heavier; = 5
            lay 1 0 0 = 1
            lay 1 1 0 = 1
            # one of 4 turns it, but three of 1 are cheaper
            turn 0 0 = 1
            turn 0 1 = 1
            bribe 0 = 15
            # two of 1 and one of 4 are left
            lay 1 0 0 = 2
            bribe 0 = 20
            rule 0 = 1
            bribe 0 = -3
            rule 2 = 0
            # 3 high, with one beside it
            bribe 0 = -3
            take 1 0 = 0
            bribe 0 = 15
            rule 0 = 2
            bribe 0 = 15
            pile 0 = 3
            """);
        Script.run("promise 32 without a mason's price", """
            town wall wide 2 high 4 bond 1; sort weight 2 bears 3 many 5; = 2
            lay 1 0 0 = 1
            bribe 0 = 0
            turn 0 0 = 2
            lay 1 1 0 = 1
            lay 1 1 0 = 2
            # the PILE has two
            bribe 0 = -3
            """);
        Script.run("promise 32: what a SORT has not on the PILE", """
            town wall wide 2 high 4 bond 1; sort weight 1 bears 3 many 1; sort weight 6 bears 9 many 9; mason 99; = 4
            lay 1 0 0 = 1
            bribe 0 = 1188
            take 1 0 = 0
            lay 1 0 1 = 1
            bribe 0 = 693
            """);
    }

    private static void tearing() {
        String town = "town wall wide 3 high 9 bond 9; sort weight 1 bears 99 many 30;"
                + " sort weight 9 bears 99 many 9; = 3\n";
        Script.run("promise 33", town + """
            tear 0 = -1
            tear 1 = -1
            tear 2 = -2
            tear -1 = -2
            lay 1 0 1 = 1
            tear 0 = -1
            tear 1 = 0
            lay 1 0 0 = 2
            lay 1 1 0 = 1
            lay 1 1 0 = 2
            lay 1 2 1 = 1
            lay 0 0 1 = 1
            lay 0 0 0 = 2
            # more: 2 against 5
            tear 0 = 4
            tear 1 = 0
            rule 1 = 0
            # heavier: 10 against 21; 9, and 1 and 9 below it
            tear 0 = 3
            tear 1 = 0
            rule 2 = 1
            # higher: 2 against 2: those of 2 to 1
            tear 0 = 2
            tear 1 = 1
            side 1 0 = 5
            take 0 0 = 0
            # 1 against 2: all
            tear 0 = 5
            tear 1 = 0
            rule 1 = 2
            # 9 against 21: 9 and 1 and 9 make 2
            tear 0 = 3
            take 1 2 = 1
            # 9 against 12: 9 is not enough, and 4 lie there: 1 from each, or two from the first
            tear 0 = 2
            take 1 0 = 0
            # 9 against 11: the 9
            tear 0 = 1
            rule 0 = 1
            # 1 against 3
            tear 0 = 3
            """);
        WallVotes x = Script.run("promise 33, a whole SIDE", """
            town wall wide 8 high 12 bond 12; sort weight 1 bears 99 many 60; sort weight 1 bears 99 many 60; = 3
            lay 0 0 0 = 1
            """);
        for (int i = 0; i < 96; i++) {
            Script.due("promise 33", "lay", x.lay(1, i % 8, i % 2), i / 8 + 1);
        }
        Script.go(x, "promise 33, a whole SIDE", """
            tear 0 = 96
            rule 1 = 0
            tear 0 = 96
            rule 2 = 1
            tear 0 = 96
            lay 0 0 0 = 2
            lay 0 0 0 = 3
            tear 0 = 80
            rule 1 = 2
            tear 0 = 94
            """);
    }
}
