/** Promises 16 to 26, 37, 38: voters, ELECTIONS, and what still lies of them. */
public final class VotesTest {
    private VotesTest() {
    }

    public static void main(String[] args) {
        habits();
        lightAndHeavy();
        lowHighAndNear();
        winnersAndLosers();
        rulesOfElections();
        readings();
        generations();
        hundredYears();
        Script.finish();
    }

    private static void habits() {
        Script.run("promises 16 to 26", """
            tape wall wide 4 high 5 bond 2; sort weight 2 bears 9 many 3; sort weight 5 bears 20 many 2; sort weight 2 bears 9 many 4; sort weight 5 bears 3 many 1; voter east low light carries 9 far 3; voter west high heavy carries 9 far 2; voter winner near 2 heavy carries 4 far 5; voter loser near 1 light carries 1 far 1; voter east near 3 light carries 5 far 4 from 1 to 1;
            town = 10
            would 0 0 = 0
            would 0 1 = 0
            would 0 2 = 0
            would 1 0 = 1
            would 1 1 = 1
            would 1 2 = 0
            would 2 0 = 0
            would 2 1 = 0
            would 2 2 = 2
            would 3 0 = 1
            would 3 1 = -1
            would 3 2 = -1
            # whether he may vote this YEAR or not
            would 4 0 = 0
            would 4 1 = 0
            would 4 2 = 3
            would 5 0 = -2
            would -1 0 = -2
            would 0 3 = -2
            would 0 -1 = -2
            count 11 = 15
            vote 4 = -1
            vote 3 = -1
            vote 5 = -2
            vote -1 = -2
            side 0 0 = 0
            vote 0 = 1
            stone 0 0 0 0 = 0
            stone 0 0 0 1 = 0
            stone 0 0 0 2 = 0
            would 0 2 = 1
            vote 0 = 1
            hands 0 = 2
            hands 1 = 0
            vote 1 = 1
            stone 1 0 0 1 = 1
            would 1 2 = 0
            pile 1 = 1
            pile 0 = 1
            lost = 0
            won 0 = -2
            votes 0 0 = -2
            still 0 0 = -2
            read 0 = -2
            span 0 0 0 = -2
            election 32 = -2
            election -1 = -2
            result 32 = -2
            result -1 = -2
            # voter 1 goes on to 2, voter 2 comes to east
            result 6 = 0
            count 5 = 0
            side 0 0 = 2
            election 6 = 0
            count 5 = 1
            count 6 = 0
            won 0 = 0
            won 1 = -2
            won -1 = -2
            votes 0 0 = 3
            votes 0 1 = 2
            votes 0 2 = -2
            votes 0 -1 = -2
            votes 1 0 = -2
            votes -1 0 = -2
            still 0 0 = 3
            still 0 1 = 2
            still 0 2 = -2
            still 1 0 = -2
            pile 0 = 0
            pile 1 = 0
            count 11 = 31
            would 0 1 = 2
            would 1 1 = 3
            would 1 2 = 1
            would 2 0 = 0
            would 3 0 = 1
            vote 4 = 1
            stone 0 3 0 1 = 4
            stone 0 3 0 2 = 1
            hands 4 = 1
            hands 5 = -2
            hands -1 = -2
            take 0 0 = 0
            still 0 0 = 2
            lost = 1
            read 0 = 2
            hands 0 = 1
            take 1 0 = 1
            still 0 1 = 1
            votes 0 1 = 2
            lost = 2
            span 0 0 0 = 2
            span 0 0 1 = 4
            span 0 1 0 = 1
            span 0 1 1 = 3
            span 0 0 2 = -2
            span 0 0 -1 = -2
            span 1 0 0 = -2
            span -1 0 0 = -2
            span 0 2 0 = -2
            ghosts 0 = 0
            election 0 = 0
            votes 1 0 = 1
            votes 1 1 = 0
            still 1 0 = 1
            ghosts 0 = 1
            ghosts 1 = 0
            ghosts 2 = -2
            ghosts -1 = -2
            vote 4 = -1
            count 11 = 15
            oldest 0 = 0
            oldest 1 = 0
            oldest 2 = -2
            oldest -1 = -2
            take 0 1 = 0
            take 0 2 = 0
            oldest 0 = 1
            take 0 3 = 2
            oldest 0 = -1
            # STONES by nobody are nobody's votes
            lay 0 0 0 = 1
            oldest 0 = -1
            lost = 5
            ghosts 0 = 0
            still 0 0 = 0
            """);
    }

    private static void lightAndHeavy() {
        Script.run("SORT of a voter", """
            town wall wide 2 high 9 bond 9; sort weight 3 bears 99 many 1; sort weight 1 bears 99 many 1; sort weight 4 bears 99 many 2; sort weight 4 bears 99 many 1; sort weight 1 bears 99 many 1; voter east low light carries 4 far 0; voter east low heavy carries 4 far 0; voter east low heavy carries 3 far 0; voter west low heavy carries 9 far 0; = 10
            would 0 1 = 1
            would 1 1 = 2
            would 2 1 = 0
            would 3 1 = 2
            vote 0 = 1
            would 0 1 = 4
            vote 0 = 1
            would 0 1 = 0
            vote 1 = 2
            vote 1 = 2
            would 1 1 = 3
            vote 1 = 3
            would 1 1 = 0
            vote 2 = 3
            would 2 1 = -1
            would 0 1 = -1
            would 0 2 = -1
            would 3 1 = -1
            would 3 0 = 1
            vote 0 = -1
            """);
    }

    private static void lowHighAndNear() {
        Script.run("COLUMN of a voter", """
            town wall wide 5 high 3 bond 3; sort weight 2 bears 9 many 20; sort weight 1 bears 0 many 9; voter east low heavy carries 9 far 0; voter east high heavy carries 9 far 0; voter east near 2 heavy carries 9 far 0; voter east near 4 heavy carries 9 far 0; = 7
            would 0 2 = 0
            would 1 2 = 0
            would 2 2 = 2
            would 3 2 = 4
            lay 0 0 0 = 1
            lay 0 3 0 = 1
            would 0 2 = 1
            would 1 2 = 0
            lay 0 3 0 = 2
            would 1 2 = 3
            # on STONES that bear nothing none may be laid: of two as near the lesser
            lay 0 2 1 = 1
            would 2 2 = 1
            lay 0 1 1 = 1
            would 2 2 = 3
            would 0 2 = 4
            lay 0 3 0 = 3
            would 2 2 = 0
            would 1 2 = 0
            would 3 2 = 4
            lay 0 4 1 = 1
            would 3 2 = 0
            lay 0 0 1 = 2
            would 3 2 = -1
            would 3 1 = 0
            would 0 2 = -1
            vote 0 = -1
            # nobody voted
            lost = 0
            election 15 = 0
            votes 0 0 = 0
            """);
    }

    private static void winnersAndLosers() {
        Script.run("who WON last", """
            town wall wide 2 high 9 bond 9; sort weight 1 bears 99 many 60; voter west low light carries 1 far 0; voter east low light carries 1 far 0; voter winner low light carries 1 far 0; voter loser low light carries 1 far 0; = 6
            election 0 = 2
            won 0 = 2
            count 6 = 2
            would 2 0 = 0
            would 3 0 = 1
            # one for each SIDE: still nobody
            result 12 = 2
            election 1 = 1
            count 6 = 1
            would 2 0 = 1
            would 3 0 = 0
            # 1 to 1: who WON last
            election 2 = 1
            won 2 = 1
            result 2 = 0
            result 4 = 1
            result 8 = 0
            side 0 0 = 1
            election 8 = 0
            would 2 0 = 0
            would 3 0 = 1
            count 5 = 4
            won 3 = 0
            won 4 = -2
            votes 0 0 = 0
            votes 1 1 = 1
            votes 3 0 = 1
            # the winner is who WON last even while the other one leads in the ELECTION
            lay 1 0 0 = 2
            lay 1 0 0 = 3
            lay 1 0 0 = 4
            leads = 1
            election 4 = 1
            votes 4 0 = 1
            votes 4 1 = 0
            """);
        Script.run("voters vote by number", """
            town wall wide 1 high 9 bond 9; sort weight 1 bears 99 many 1; voter west low light carries 1 far 0; voter east low light carries 1 far 0; = 4
            result 3 = 1
            result 2 = 0
            election 3 = 1
            hands 0 = 1
            hands 1 = 0
            votes 0 0 = 0
            votes 0 1 = 1
            """);
    }

    private static void rulesOfElections() {
        String town = "town wall wide 3 high 9 bond 9; sort weight 1 bears 99 many 9;"
                + " sort weight 5 bears 99 many 1; voter east low light carries 1 far 0;"
                + " voter east high light carries 1 far 0; voter west near 0 heavy carries 9 far 0;"
                + " voter west near 0 light carries 1 far 0; ";
        Script.run("rule more", town + " = 7\nresult 7 = 0\nresult 15 = 2\nelection 7 = 0");
        Script.run("rule heavier", town + "rule heavier; = 8\nresult 7 = 1\nelection 3 = 0");
        Script.run("rule higher", town + "rule higher; = 8\nresult 3 = 0\nresult 12 = 1\nresult 5 = 2\n"
                + "result 15 = 2\nresult 13 = 1\nelection 7 = 0");
    }

    private static void readings() {
        Script.run("promises 22 to 24, 37", """
            town wall wide 4 high 9 bond 9; sort weight 1 bears 99 many 60; voter east low light carries 1 far 0; voter east low light carries 1 far 0; voter east low light carries 1 far 0; voter west low light carries 1 far 0; = 6
            election 15 = 0
            read 0 = 0
            take 1 0 = 0
            # 3 to 0, one is lost
            read 0 = 0
            take 0 0 = 0
            # 2 to 0, two are lost
            read 0 = 2
            still 0 0 = 2
            still 0 1 = 0
            votes 0 0 = 3
            votes 0 1 = 1
            span 0 0 0 = 2
            span 0 0 1 = 4
            span 0 1 0 = 0
            span 0 1 1 = 2
            vote 3 = 1
            vote 3 = 1
            vote 3 = 1
            vote 3 = 1
            election 0 = 1
            votes 1 1 = 4
            read 1 = 1
            # those lost are of any YEAR
            take 1 3 = 0
            take 1 2 = 0
            lost = 4
            read 1 = 2
            span 1 1 0 = 2
            span 1 1 1 = 6
            span 1 0 1 = 4
            # STONES by nobody neither count nor are lost
            lay 1 2 0 = 1
            still 1 1 = 2
            take 1 2 = 0
            lost = 4
            read 2 = -2
            read -1 = -2
            """);
    }

    private static void generations() {
        Script.run("promises 17, 18, 26, 38", """
            town wall wide 2 high 12 bond 12; sort weight 1 bears 99 many 60; voter east low light carries 1 far 0 from 1 to 2; voter west low light carries 1 far 0 to 0; voter west low light carries 1 far 0 from 2; = 5
            count 11 = 2
            election 7 = 1
            count 11 = 1
            vote 1 = -1
            ghosts 1 = 1
            ghosts 0 = 0
            oldest 1 = 0
            oldest 0 = -1
            election 7 = 1
            votes 1 0 = 1
            votes 1 1 = 0
            oldest 0 = 1
            count 11 = 5
            vote 0 = 1
            election 7 = 0
            votes 2 0 = 2
            votes 2 1 = 1
            count 11 = 4
            ghosts 0 = 3
            ghosts 1 = 1
            hands 0 = 3
            hands 1 = 1
            hands 2 = 1
            lay 0 0 0 = 3
            ghosts 0 = 3
            """);
    }

    private static void hundredYears() {
        WallVotes x = Script.run("YEARS", """
            town wall wide 2 high 12 bond 12; sort weight 1 bears 99 many 60; voter east low light carries 1 far 0 from 99 to 99; voter west low light carries 1 far 0; = 4
            """);
        for (int i = 0; i < 99; i++) {
            Script.due("promise 18", "election(0)", x.election(0), 2);
        }
        Script.go(x, "promises 18 to 21", """
            count 5 = 99
            count 11 = 3
            result 1 = 0
            election 1 = 0
            count 5 = 100
            election 0 = -3
            result 3 = -3
            election 4 = -2
            result 4 = -2
            won 99 = 0
            won 98 = 2
            won 100 = -2
            votes 99 0 = 1
            votes 100 0 = -2
            still 99 0 = 1
            read 99 = 0
            span 99 0 1 = 1
            oldest 0 = 99
            count 11 = 0
            vote 1 = -1
            ghosts 0 = 1
            would 1 2 = 0
            # STONES may still be laid, by nobody
            lay 1 0 0 = 1
            stone 1 0 0 2 = 100
            pivot 0 = -3
            pivot 1 = -3
            pivot 2 = -2
            fetch 0 0 = -3
            fetch 2 0 = -2
            margin 0 0 = -1000000
            cheap 0 = -3
            cheap 2 = -2
            power 0 = -3
            power 2 = -2
            run 0 1 = -3
            run 0 0 = -2
            runs 0 1 1 0 = -3
            runs 0 1 1 3 = -2
            """);
    }
}
