/** A call that is refused changes nothing that can be seen, and neither does one in thought. */
public final class RefusedTest {
    private static final String TOWN = "town wall wide 3 high 3 bond 1; sort weight 1 bears 9 many 6;"
            + " sort weight 4 bears 3 many 1; sort weight 2 bears 2 many 0;"
            + " voter east low light carries 1 far 3; voter winner high heavy carries 9 far 2 to 1;"
            + " voter loser near 2 heavy carries 4 far 40 from 1; storm 45; mason 2; = 9\n";
    private static final String GONE_ON = TOWN + """
        vote 0 = 1
        election 3 = 0
        lay 1 2 0 = 1
        election 5 = 0
        # the 4 of voter 1; east has 1 1 1 then, west 0 1 1
        take 0 0 = 1
        rule 1 = 0
        row 0 1 2 = 0
        write 0 1 1000 = 0
        row 1 3 1 = 0
        keep 0 = 0
        tape wall wide 4 high 4 bond 4;
        """;

    /** No argument of these is right in any state. */
    private static final String ALWAYS = """
        end -1 = -1
        end 1601 = -1
        keep 3 = -2
        keep -1 = -2
        back 3 = -2
        back -1 = -2
        back 1 = -6
        row 4 0 1 = -2
        row 0 4 1 = -2
        row 0 0 61 = -2
        row 0 0 -1 = -3
        write 4 0 0 = -2
        write 3 0 0 = -6
        write 0 2 99 = -7
        write 0 -1 99 = -7
        paste 4 0 0 0 1 = -2
        paste 0 0 3 0 1 = -6
        paste 0 0 1 0 1 = -8
        paste 0 0 0 1 2 = -7
        paste 0 1 0 0 2 = -7
        paste 0 -1 0 0 1 = -7
        paste 0 0 0 -1 1 = -7
        paste 0 0 0 0 -1 = -7
        lay 2 0 0 = -2
        lay 0 9 0 = -2
        lay 0 0 5 = -2
        take 2 0 = -2
        take 0 9 = -2
        vote -1 = -2
        vote 10 = -2
        election -1 = -2
        election 1024 = -2
        storm -1 = -2
        storm 2000000001 = -2
        run -1 1 = -2
        run 2000000001 1 = -2
        run 0 0 = -2
        run 0 31 = -2
        rule 3 = -2
        rule -1 = -2
        """;

    private RefusedTest() {
    }

    public static void main(String[] args) {
        WallVotes none = Script.run("no TOWN", "row 0 1 2 = 0\nrow 1 3 1 = 0\n"
                + "tape wall wide 4 high 4 bond 4;");
        unchanged("no TOWN", none, ALWAYS + """
            lay 0 0 0 = -2
            take 0 0 = -2
            vote 0 = -2
            election 0 = -2
            storm 0 = -2
            run 0 1 = -2
            rule 0 = -2
            """);
        Script.go(none, "the TAPE stayed, too", "town = 1\ncount 0 = 4");

        WallVotes town = Script.run("a TOWN", GONE_ON);
        unchanged("a TOWN", town, ALWAYS + """
            lay 0 0 2 = -3
            lay 1 1 0 = -5
            take 1 0 = -5
            vote 1 = -1
            vote 3 = -2
            election 8 = -2
            """);
        Script.go(town, "the TAPE and the IMAGE stayed, too", """
            town = 1
            count 0 = 4
            back 0 = 0
            count 5 = 2
            pile 0 = 1
            """);

        WallVotes full = Script.run("a WALL that is full", GONE_ON.replace("high 3", "high 1")
                .replace("vote 0 = 1\n", "").replace("take 0 0 = 1\n", ""));
        unchanged("a WALL that is full", full, ALWAYS + "lay 0 0 0 = -5\nlay 1 2 0 = -5\n");

        unchanged("YEAR 100", yearHundred(), ALWAYS + """
            election 0 = -3
            election 7 = -3
            run 0 1 = -3
            run 0 30 = -3
            vote 0 = -1
            vote 2 = -1
            """);
        fullTape();
        Script.finish();
    }

    private static WallVotes yearHundred() {
        WallVotes x = Script.run("YEAR 100", GONE_ON);
        while (x.election(x.count(5) % 8) >= 0) {
            x.take(0, 0);
        }
        Script.due("YEAR 100", "count(5)", x.count(5), 100);
        return x;
    }

    private static void fullTape() {
        WallVotes x = Script.run("a TAPE that is full", GONE_ON);
        Script.write(x, "wall wide 5 high 4 bond 4;" + " ".repeat(1574));
        unchanged("a TAPE that is full", x, "feed 1 2 3 4 5 = -1\nend 1601 = -1\n");
        Script.go(x, "a TAPE that is full", "town = 1\ncount 0 = 5");
    }

    private static void unchanged(String state, WallVotes x, String calls) {
        String before = Picture.of(x);
        same(state, "looking at all of it", before, x);
        for (String call : calls.split("\n")) {
            Script.go(x, state, call);
            same(state, call, before, x);
        }
    }

    private static void same(String state, String call, String before, WallVotes x) {
        Script.due(state, "behind " + call.strip() + " all is as it was",
                Picture.of(x).equals(before) ? 1 : 0, 1);
    }
}
