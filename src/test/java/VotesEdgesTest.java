/**
 * Terms III and promises 16 to 26, 37, 38: each sentence that names a boundary case, by itself.
 */
public final class VotesEdgesTest {
    private static final String EAST = " voter east low light carries 1 far 0;";
    private static final String WEST = " voter west low light carries 1 far 0;";
    private static final String WIDE = "town wall wide 4 high 12 bond 12; sort weight 1 bears 99 many 60;";
    /** Voters 0 and 1 for east, 2 for west. */
    private static final String THREE = WIDE + EAST + EAST + WEST + " = 5\n";

    private VotesEdgesTest() {
    }

    public static void main(String[] args) {
        yearsOfVoters();
        wantedSides();
        ownSorts();
        ownColumns();
        noVote();
        whoWins();
        votesByVote();
        wrongVoters();
        wrongSets();
        wrongYears();
        hundredYears();
        lying();
        readings();
        spans();
        handsGone();
        oldestVotes();
        tenVotersOnEight();
        Script.finish();
    }

    private static void yearsOfVoters() {
        Script.run("III: not below from, not above to", WIDE + EAST.replace("0;", "0 from 2 to 3;") + """
             = 3
            count 11 = 0
            vote 0 = -1
            election 1 = 2
            count 11 = 0
            vote 0 = -1
            election 1 = 2
            votes 1 0 = 0
            # YEAR 2 is from
            count 11 = 1
            vote 0 = 1
            election 1 = 0
            votes 2 0 = 2
            # YEAR 3 is to
            count 11 = 1
            vote 0 = 1
            election 1 = 0
            votes 3 0 = 2
            # YEAR 4 is above it
            count 11 = 0
            vote 0 = -1
            election 1 = 0
            votes 4 0 = 0
            side 0 0 = 4
            """);
        Script.run("III: from and to are one YEAR", WIDE + EAST.replace("0;", "0 from 1 to 1;") + """
             = 3
            count 11 = 0
            election 0 = 2
            count 11 = 1
            election 0 = 2
            count 11 = 0
            """);
        Script.run("promise 16: whether he may vote this YEAR or not", WIDE
                + EAST.replace("0;", "0 from 1 to 1;") + """
             = 3
            would 0 0 = 0
            would 0 1 = 0
            would 0 2 = 0
            # promise 17: or may not vote this YEAR
            vote 0 = -1
            side 0 0 = 0
            pile 0 = 60
            lost = 0
            """);
    }

    private static void wantedSides() {
        String habits = WIDE + " voter winner low light carries 1 far 0; voter loser low light carries 1 far 0;"
                + EAST + WEST + " = 6\n";
        Script.run("III: while nobody has WON: east, west", habits + """
            would 0 0 = 0
            would 1 0 = 1
            election 0 = 2
            # nobody yet
            would 0 0 = 0
            would 1 0 = 1
            # leading is not having WON
            lay 1 0 0 = 1
            leads = 1
            would 0 0 = 0
            would 1 0 = 1
            election 0 = 1
            would 0 0 = 1
            would 1 0 = 0
            """);
        Script.run("III: that which WON last, the other one", habits + """
            election 4 = 0
            would 0 0 = 0
            would 1 0 = 1
            lay 1 0 0 = 1
            lay 1 0 0 = 2
            would 0 0 = 0
            election 0 = 1
            would 0 0 = 1
            would 1 0 = 0
            """);
        Script.run("III: who WON last, not who leads while the ELECTION goes on", WIDE + WEST + WEST
                + " voter winner low light carries 1 far 0; = 5\n" + """
            # behind two for west he still goes east
            election 7 = 1
            votes 0 0 = 1
            votes 0 1 = 2
            election 4 = 1
            votes 1 1 = 1
            """);
    }

    private static void ownSorts() {
        Script.run("III: that weigh no more than he carries", """
            town wall wide 1 high 12 bond 12; sort weight 5 bears 99 many 1; sort weight 6 bears 99 many 1; voter east low heavy carries 5 far 0; voter east low heavy carries 4 far 0; voter east low heavy carries 6 far 0; voter east low light carries 9 far 0; = 7
            would 0 1 = 0
            # NONE: no STONE for him
            would 1 1 = -1
            would 1 2 = -1
            would 1 0 = 0
            would 2 1 = 1
            would 3 1 = 0
            vote 1 = -1
            """);
        Script.run("III: of which there is a STONE on the PILE", """
            town wall wide 1 high 12 bond 12; sort weight 1 bears 99 many 0; sort weight 2 bears 99 many 1; sort weight 3 bears 99 many 1; sort weight 4 bears 99 many 0; voter east low light carries 9 far 0; voter east low heavy carries 9 far 0; = 7
            would 0 1 = 1
            would 1 1 = 2
            vote 0 = 1
            # the last of it is gone
            would 0 1 = 2
            vote 0 = 2
            would 0 1 = -1
            would 1 1 = -1
            vote 1 = -1
            take 0 0 = 2
            would 0 1 = 2
            """);
        Script.run("III: the heaviest, the lightest, by 1", """
            town wall wide 1 high 12 bond 12; sort weight 3 bears 99 many 1; sort weight 2 bears 99 many 1; sort weight 4 bears 99 many 1; voter east low light carries 9 far 0; voter east low heavy carries 9 far 0; voter east low heavy carries 3 far 0; = 7
            would 0 1 = 1
            would 1 1 = 2
            would 2 1 = 0
            """);
        Script.run("III: the first of several", """
            town wall wide 1 high 12 bond 12; sort weight 2 bears 99 many 1; sort weight 2 bears 99 many 1; sort weight 2 bears 99 many 1; voter east low light carries 9 far 0; voter east low heavy carries 9 far 0; = 6
            would 0 1 = 0
            would 1 1 = 0
            vote 1 = 1
            would 0 1 = 1
            would 1 1 = 1
            """);
        Script.run("III: a TOWN without SORTS", "town wall wide 1 high 1 bond 1;" + EAST + """
             = 2
            would 0 0 = 0
            would 0 1 = -1
            would 0 2 = -1
            vote 0 = -1
            election 1 = 2
            votes 0 0 = 0
            """);
    }

    private static void ownColumns() {
        String five = "town wall wide 5 high 2 bond 2; sort weight 1 bears 1 many 60;";
        Script.run("III: the lowest, the highest, the first of several", five
                + " voter east low light carries 1 far 0; voter east high light carries 1 far 0; = 4\n" + """
            would 0 2 = 0
            would 1 2 = 0
            lay 0 0 0 = 1
            lay 0 3 0 = 1
            lay 0 4 0 = 1
            would 0 2 = 1
            would 1 2 = 0
            lay 0 0 0 = 2
            # on the highest none may be laid
            would 1 2 = 3
            lay 0 3 0 = 2
            would 1 2 = 4
            lay 0 4 0 = 2
            would 1 2 = 1
            would 0 2 = 1
            """);
        Script.run("III: the nearest to C, of two the lesser", five
                + " voter west near 2 light carries 1 far 0; voter west near 0 light carries 1 far 0;"
                + " voter west near 4 light carries 1 far 0; = 5\n" + """
            would 0 2 = 2
            would 1 2 = 0
            would 2 2 = 4
            lay 1 2 0 = 1
            lay 1 2 0 = 2
            would 0 2 = 1
            lay 1 1 0 = 1
            lay 1 1 0 = 2
            # 3 is nearer than 0
            would 0 2 = 3
            lay 1 3 0 = 1
            lay 1 3 0 = 2
            # 0 and 4: the lesser
            would 0 2 = 0
            lay 1 0 0 = 1
            lay 1 0 0 = 2
            would 0 2 = 4
            would 1 2 = 4
            lay 1 4 0 = 1
            lay 1 4 0 = 2
            would 0 2 = -1
            would 1 2 = -1
            would 2 2 = -1
            would 2 1 = 0
            """);
        Script.run("III: of his SIDE", five + EAST + """
             = 3
            lay 1 0 0 = 1
            would 0 2 = 0
            vote 0 = 1
            side 0 0 = 1
            side 1 0 = 1
            """);
    }

    private static void noVote() {
        Script.run("III: if he has no COLUMN, he lays none (and does not vote)", """
            town wall wide 1 high 1 bond 1; sort weight 1 bears 0 many 60; voter east low light carries 1 far 0; = 3
            vote 0 = 1
            would 0 1 = 0
            would 0 2 = -1
            vote 0 = -1
            election 1 = 0
            votes 0 0 = 1
            lost = 0
            hands 0 = 1
            election 1 = 0
            votes 1 0 = 0
            pile 0 = 59
            """);
        Script.run("III: his SORT is what he has, though another one could be laid", """
            town wall wide 1 high 9 bond 1; sort weight 1 bears 1 many 60; sort weight 2 bears 99 many 60; voter east low heavy carries 2 far 0; voter east low heavy carries 1 far 0; = 5
            lay 0 0 0 = 1
            would 0 1 = 1
            would 0 2 = -1
            vote 0 = -1
            would 1 1 = 0
            vote 1 = 2
            """);
    }

    private static void whoWins() {
        Script.run("III: who WON last WINS, if neither leads; 2: nobody, while nobody has", THREE + """
            election 0 = 2
            election 5 = 2
            won 1 = 2
            count 6 = 2
            election 1 = 0
            count 6 = 0
            # 2 to 2
            election 4 = 0
            leads = 2
            won 3 = 0
            election 4 = 1
            # 3 to 3
            election 1 = 1
            leads = 2
            won 5 = 1
            count 6 = 1
            count 5 = 6
            """);
        Script.run("promise 19: Who would WIN (in thought)", THREE + """
            result 0 = 2
            result 1 = 0
            result 4 = 1
            result 5 = 2
            result 7 = 0
            count 5 = 0
            count 6 = 2
            side 0 0 = 0
            pile 0 = 60
            won 0 = -2
            """);
        Script.run("III: none come", THREE + """
            lay 1 0 0 = 1
            election 0 = 1
            votes 0 0 = 0
            votes 0 1 = 0
            count 5 = 1
            side 1 0 = 1
            """);
        Script.run("promise 18: a TOWN without voters", "town wall wide 1 high 1 bond 1; = 1\n" + """
            election 1 = -2
            election 0 = 2
            result 0 = 2
            result 1 = -2
            count 5 = 1
            """);
    }

    private static void votesByVote() {
        Script.run("III: Votes by vote() count for the YEAR it is", THREE + """
            vote 0 = 1
            vote 0 = 1
            election 2 = 0
            votes 0 0 = 3
            votes 0 1 = 0
            vote 2 = 1
            votes 1 1 = -2
            stone 1 0 0 2 = 1
            election 0 = 0
            votes 1 1 = 1
            votes 1 0 = 0
            votes 0 0 = 3
            """);
    }

    private static void wrongVoters() {
        Script.run("promises 16, 17, 25: no such voter, what", THREE + """
            would -1 0 = -2
            would 3 0 = -2
            would 2147483647 0 = -2
            would -2147483648 0 = -2
            would 0 -1 = -2
            would 0 3 = -2
            would 0 2147483647 = -2
            would 0 -2147483648 = -2
            would 2 2 = 0
            vote -1 = -2
            vote 3 = -2
            vote 2147483647 = -2
            vote -2147483648 = -2
            hands -1 = -2
            hands 3 = -2
            hands 2147483647 = -2
            hands -2147483648 = -2
            hands 2 = 0
            """);
    }

    private static void wrongSets() {
        Script.run("promises 18, 19: there are none such", THREE + """
            election -1 = -2
            election 8 = -2
            election 2147483647 = -2
            election -2147483648 = -2
            result -1 = -2
            result 8 = -2
            result 2147483647 = -2
            result -2147483648 = -2
            count 5 = 0
            side 0 0 = 0
            result 7 = 0
            election 7 = 0
            """);
        Script.run("promise 18: ten voters", WIDE + EAST.repeat(9) + WEST + """
             = 12
            election 1024 = -2
            result 1024 = -2
            result 512 = 1
            election 1023 = 0
            votes 0 0 = 9
            votes 0 1 = 1
            """);
    }

    private static void wrongYears() {
        Script.run("promises 20 to 22, 24: there was none; no such SIDE", THREE + """
            won 0 = -2
            votes 0 0 = -2
            still 0 0 = -2
            read 0 = -2
            election 1 = 0
            won 0 = 0
            won 1 = -2
            won -1 = -2
            won 2147483647 = -2
            won -2147483648 = -2
            votes 0 0 = 1
            votes 1 0 = -2
            votes -1 1 = -2
            votes 2147483647 0 = -2
            votes -2147483648 0 = -2
            votes 0 2 = -2
            votes 0 -1 = -2
            votes 0 2147483647 = -2
            still 0 0 = 1
            still 1 0 = -2
            still -1 1 = -2
            still 2147483647 0 = -2
            still 0 2 = -2
            still 0 -1 = -2
            still 0 -2147483648 = -2
            read 0 = 0
            read 1 = -2
            read -1 = -2
            read 2147483647 = -2
            read -2147483648 = -2
            """);
    }

    private static void hundredYears() {
        WallVotes x = Script.run("promise 18", THREE);
        for (int year = 0; year < 99; year++) {
            Script.due("promise 18", "election", x.election(year == 50 ? 4 : 0), year < 50 ? 2 : 1);
        }
        Script.go(x, "promises 18, 19: -3: 100 YEARS have gone", """
            count 5 = 99
            result 3 = 0
            vote 0 = 1
            election 2 = 0
            count 5 = 100
            election 0 = -3
            election 7 = -3
            result 0 = -3
            # there are none such, and 100 YEARS have gone
            election 8 = -2
            result -1 = -2
            count 5 = 100
            count 6 = 0
            won 99 = 0
            won 98 = 1
            won 49 = 2
            won 50 = 1
            won 100 = -2
            votes 99 0 = 2
            votes 100 0 = -2
            still 99 0 = 2
            still 100 0 = -2
            read 99 = 0
            read 100 = -2
            span 99 0 0 = 2
            span 100 0 0 = -2
            # nobody may vote any more
            count 11 = 0
            vote 0 = -1
            would 0 2 = 2
            ghosts 0 = 2
            ghosts 1 = 1
            lay 0 0 0 = 2
            stone 0 0 1 2 = 100
            lost = 0
            take 0 0 = 0
            take 0 0 = 0
            lost = 1
            """);
    }

    private static void lying() {
        Script.run("promises 22, 23: do not lie there any more", THREE + """
            lost = 0
            election 7 = 0
            lost = 0
            still 0 0 = 2
            take 0 1 = 0
            still 0 0 = 1
            lost = 1
            take 0 0 = 0
            take 1 0 = 0
            still 0 0 = 0
            still 0 1 = 0
            lost = 3
            votes 0 0 = 2
            # STONES that nobody laid
            lay 0 0 0 = 1
            lost = 3
            still 0 0 = 0
            take 0 0 = 0
            lost = 3
            # a vote that is taken in the YEAR it is, too
            vote 0 = 1
            lost = 3
            take 0 0 = 0
            lost = 4
            election 0 = 0
            votes 1 0 = 1
            still 1 0 = 0
            """);
        Script.run("promises 22 to 24, 37: a STONE of that YEAR by nobody is no vote", THREE + """
            lay 0 0 0 = 1
            lay 0 0 0 = 2
            lay 1 0 0 = 1
            election 4 = 2
            votes 0 0 = 0
            votes 0 1 = 1
            still 0 0 = 0
            still 0 1 = 1
            read 0 = 1
            span 0 0 0 = 0
            span 0 0 1 = 0
            oldest 0 = -1
            hands 0 = 0
            take 0 0 = 0
            lost = 0
            """);
        Script.run("promise 22: of these, of one SIDE and YEAR", THREE + """
            election 1 = 0
            election 6 = 0
            still 0 0 = 1
            still 0 1 = 0
            still 1 0 = 1
            still 1 1 = 1
            """);
    }

    private static void readings() {
        Script.run("promise 24: whatever those lost were", WIDE + EAST.repeat(3) + WEST + """
             = 6
            election 15 = 0
            # 3 to 1
            read 0 = 0
            take 1 0 = 0
            # 3 to 0 with 1
            read 0 = 0
            take 0 2 = 0
            # 2 to 0 with 2: alike at the worst
            read 0 = 2
            take 0 1 = 0
            read 0 = 2
            # of any YEAR: 4 to 0 with 3, then 4 to 0 with 4
            vote 3 = 1
            vote 3 = 1
            vote 3 = 1
            vote 3 = 1
            election 0 = 1
            read 1 = 1
            take 0 0 = 0
            lost = 4
            read 1 = 2
            """);
        Script.run("promise 24: 2: it does not", THREE + """
            election 0 = 2
            read 0 = 2
            election 5 = 2
            read 1 = 2
            # one more, and none is lost
            election 1 = 0
            read 2 = 0
            """);
    }

    private static void spans() {
        Script.run("promise 37: the least, the most; -2", THREE + """
            span 0 0 0 = -2
            span 0 0 1 = -2
            election 7 = 0
            span 0 0 0 = 2
            span 0 0 1 = 2
            span 0 1 0 = 1
            span 0 1 1 = 1
            take 0 0 = 0
            span 0 0 0 = 1
            span 0 0 1 = 2
            # all that are lost, too, whosever they were
            span 0 1 1 = 2
            # 1 to 1
            election 0 = 0
            span 1 0 0 = 0
            span 1 0 1 = 1
            span 2 0 0 = -2
            span -1 0 0 = -2
            span 2147483647 0 0 = -2
            span -2147483648 0 0 = -2
            span 0 2 0 = -2
            span 0 -1 0 = -2
            span 0 0 2 = -2
            span 0 0 -1 = -2
            span 0 0 2147483647 = -2
            span 0 2147483647 0 = -2
            """);
    }

    private static void handsGone() {
        Script.run("promise 26: who may vote no more this YEAR", WIDE + EAST.replace("0;", "0 to 1;")
                + WEST.replace("0;", "0 from 1;") + """
             = 4
            election 1 = 0
            # YEAR 1 is to
            ghosts 0 = 0
            election 3 = 0
            # YEAR 2
            ghosts 0 = 2
            ghosts 1 = 0
            # those of nobody have no HAND
            lay 0 3 0 = 1
            ghosts 0 = 2
            take 0 0 = 0
            ghosts 0 = 1
            ghosts 2 = -2
            ghosts -1 = -2
            ghosts 2147483647 = -2
            ghosts -2147483648 = -2
            """);
    }

    private static void tenVotersOnEight() {
        WallVotes x = Script.run("ten voters, COLUMNS 0 .. 7 of a SIDE and no more", """
            town wall wide 8 high 12 bond 12; sort weight 1 bears 99 many 60;"""
                + " voter east near 7 light carries 1 far 0 to 0;".repeat(5)
                + " voter west near 0 light carries 1 far 0 to 0;".repeat(4)
                + " voter winner near 7 light carries 1 far 0; = 12\n");
        Script.go(x, "ten voters, COLUMNS 0 .. 7 of a SIDE and no more", """
            vote 5 = 1
            vote 6 = 2
            # west's first COLUMN is none of east's
            oldest 0 = -1
            hands 5 = 1
            hands 6 = 1
            ghosts 0 = 0
            election 512 = 1
            votes 0 0 = 1
            votes 0 1 = 2
            still 0 0 = 1
            still 0 1 = 2
            read 0 = 1
            span 0 0 1 = 1
            oldest 0 = 0
            ghosts 0 = 0
            ghosts 1 = 2
            lost = 0
            # west WON last, so voter 9 has a HAND on each SIDE
            election 1023 = 1
            votes 1 1 = 1
            votes 1 0 = 0
            hands 9 = 2
            count 11 = 512
            take 0 7 = 0
            lost = 1
            oldest 0 = -1
            oldest 1 = 0
            """);
    }

    private static void oldestVotes() {
        Script.run("promise 38: NONE: none does; -2", THREE + """
            oldest 0 = -1
            lay 0 0 0 = 1
            # by nobody
            oldest 0 = -1
            election 0 = 0
            vote 2 = 1
            oldest 1 = 1
            oldest 0 = -1
            # 1 to 1
            election 0 = 0
            vote 2 = 1
            oldest 1 = 1
            take 1 0 = 0
            oldest 1 = 2
            take 1 1 = 0
            oldest 1 = -1
            oldest 2 = -2
            oldest -1 = -2
            oldest 2147483647 = -2
            oldest -2147483648 = -2
            """);
    }
}
