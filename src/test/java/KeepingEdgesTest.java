/** Terms I (SLOTS) and promises 47 to 54: each sentence that names a boundary case, by itself. */
public final class KeepingEdgesTest {
    private static final String TOWN = "town wall wide 3 high 3 bond 1; sort weight 1 bears 9 many 3;"
            + " sort weight 4 bears 3 many 2; voter east low light carries 1 far 0; storm 50; = 5\n";

    private KeepingEdgesTest() {
    }

    public static void main(String[] args) {
        judgedNumbers();
        judgedRows();
        thenLeads();
        wrongJudging();
        counting();
        keeping();
        goingBack();
        rows();
        rowsInPlace();
        writing();
        cutting();
        pasting();
        pastingItself();
        refusedPastes();
        Script.finish();
    }

    /** A row of one number, and whether it can be laid on a WALL of nothing. */
    private static void one(int width, long number, int due) {
        WallVotes x = Script.run("promise 47", TOWN + "row 0 " + width + " 1 = 0");
        Script.due("promise 47", "write " + number, x.write(0, 0, number), 0);
        Script.due("promise 47: 1,000 times the SIDE, 10 times the COLUMN and the SORT",
                "judge of " + number + ", WIDTH " + width, x.judge(0), due);
        Script.due("promise 48", "then of " + number + ", WIDTH " + width, x.then(0),
                due == 0 ? 2 : 0);
    }

    private static void judgedNumbers() {
        one(3, 0, 1);
        one(3, 1, 1);
        one(3, 2, 0);
        one(3, 9, 0);
        one(3, 20, 1);
        one(3, 21, 1);
        one(3, 30, 0);
        one(3, 80, 0);
        one(3, 999, 0);
        one(3, 2000, 0);
        one(3, 2147483647, 0);
        one(3, -1, 0);
        one(3, -1000, 0);
        one(3, -2147483648L, 0);
        one(3, 4294967296L, 0);
        one(3, 4294967296L + 10, 0);
        one(3, Long.MAX_VALUE, 0);
        one(3, Long.MIN_VALUE, 0);
        Script.run("promise 47: COLUMN 7, SORT 4", """
            town wall wide 8 high 1 bond 1; sort weight 1 bears 0 many 9; sort weight 1 bears 0 many 9; sort weight 1 bears 0 many 9; sort weight 1 bears 0 many 9; sort weight 1 bears 0 many 9; = 6
            row 0 1 3 = 0
            write 0 0 74 = 0
            write 0 1 1074 = 0
            write 0 2 1064 = 0
            judge 0 = 3
            then 0 = 1
            # the same COLUMN once more
            write 0 2 1070 = 0
            judge 0 = 2
            then 0 = 2
            write 0 2 75 = 0
            judge 0 = 2
            write 0 2 84 = 0
            judge 0 = 2
            """);
        Script.run("promise 47: west's", TOWN + """
            row 0 3 1 = 0
            write 0 0 1000 = 0
            judge 0 = 1
            then 0 = 1
            write 0 0 1021 = 0
            judge 0 = 1
            write 0 0 1022 = 0
            judge 0 = 0
            write 0 0 1030 = 0
            judge 0 = 0
            write 0 0 1999 = 0
            judge 0 = 0
            """);
    }

    private static void judgedRows() {
        Script.run("promise 47: how many ahead of the first that can't be", TOWN + """
            row 0 1 4 = 0
            write 0 0 0 = 0
            write 0 1 10 = 0
            write 0 2 1000 = 0
            write 0 3 1011 = 0
            # all of them
            judge 0 = 4
            # what comes behind the first that can't be is not looked at
            write 0 1 0 = 0
            judge 0 = 1
            write 0 0 99 = 0
            judge 0 = 0
            # one too many of the PILE: three of the first SORT
            write 0 0 0 = 0
            write 0 1 10 = 0
            write 0 2 20 = 0
            write 0 3 1000 = 0
            judge 0 = 3
            # in thought
            side 0 0 = 0
            pile 0 = 3
            lay 1 0 0 = 1
            judge 0 = 2
            """);
        Script.run("promise 47: one behind the other", TOWN + """
            row 0 1 4 = 0
            write 0 0 10 = 0
            write 0 1 0 = 0
            write 0 2 11 = 0
            write 0 3 20 = 0
            # bond: the third needs the fourth
            judge 0 = 2
            write 0 2 20 = 0
            write 0 3 11 = 0
            judge 0 = 4
            # 4 is borne by 9, 4 by 3 is not
            write 0 0 11 = 0
            judge 0 = 3
            """);
        WallVotes x = Script.run("promise 47: a row of 60", "town wall wide 8 high 12 bond 12;"
                + " sort weight 1 bears 99 many 59; = 2\nrow 3 1 60 = 0\n");
        for (int i = 0; i < 60; i++) {
            Script.due("promise 47: a row of 60", "write", x.write(3, i, 10 * (i % 8)), 0);
        }
        Script.go(x, "promise 47: a row of 60", "judge 3 = 59\nthen 3 = 0");
        WallVotes y = Script.run("promise 47: a row of 60", "town wall wide 8 high 12 bond 12;"
                + " sort weight 1 bears 99 many 60; = 2\nrow 3 1 60 = 0\n");
        for (int i = 0; i < 60; i++) {
            y.write(3, i, 1000 + 10 * (i % 8));
        }
        Script.go(y, "promise 47: a row of 60", "judge 3 = 60\nthen 3 = 1");
        Script.run("promise 47: a row of no numbers", TOWN + """
            row 0 0 0 = 0
            judge 0 = 0
            then 0 = 2
            lay 1 0 0 = 1
            then 0 = 1
            """);
    }

    private static void thenLeads() {
        Script.run("promise 48: behind these; alike", TOWN + """
            row 0 1 3 = 0
            write 0 0 0 = 0
            write 0 1 1000 = 0
            write 0 2 99 = 0
            judge 0 = 2
            then 0 = 2
            # by the rule it is
            write 0 1 1001 = 0
            then 0 = 2
            rule 1 = 0
            then 0 = 1
            # those behind the first that can't be are not laid
            write 0 0 99 = 0
            then 0 = 2
            leads = 2
            """);
    }

    private static void wrongJudging() {
        Script.run("promises 47, 48: no such SLOT, no TOWN", "row 0 0 1 = 0\njudge 0 = -2\nthen 0 = -2\n"
                + "judge 1 = -2\nthen 1 = -2\n" + TOWN + """
            judge -1 = -2
            judge 4 = -2
            judge 2147483647 = -2
            judge -2147483648 = -2
            then -1 = -2
            then 4 = -2
            then 2147483647 = -2
            then -2147483648 = -2
            # a SLOT is no part of a TOWN
            judge 0 = 1
            then 0 = 0
            # it has nothing
            judge 1 = -6
            judge 3 = -6
            then 1 = -6
            then 3 = -6
            """);
    }

    private static void counting() {
        Script.run("promise 49: NONE for others", TOWN + """
            count -1 = -1
            count 13 = -1
            count 2147483647 = -1
            count -2147483648 = -1
            count 12 = 0
            """);
        Script.run("promise 49: SLOTS that have a row", """
            count 12 = 0
            row 0 0 0 = 0
            count 12 = 1
            row 0 3 60 = 0
            count 12 = 1
            row 3 3 60 = 0
            row 2 3 60 = 0
            count 12 = 3
            row 1 0 -1 = -3
            row 1 0 61 = -2
            count 12 = 3
            row 1 0 1 = 0
            count 12 = 4
            """);
        Script.run("promise 49: bytes of the TAPE", """
            count 8 = 0
            feed 0 0 0 0 0 = 20
            count 8 = 20
            end 7 = 7
            count 8 = 7
            town = -4
            end 0 = 0
            count 8 = 0
            """);
    }

    private static void keeping() {
        Script.run("promise 50: k (0 .. 2); -2", TOWN + """
            keep -1 = -2
            keep 3 = -2
            keep 2147483647 = -2
            keep -2147483648 = -2
            back 0 = -6
            back 1 = -6
            back 2 = -6
            keep 0 = 0
            keep 2 = 0
            back 0 = 0
            back 1 = -6
            back 2 = 0
            """);
        Script.run("promise 50: in place of what it had", TOWN + """
            keep 1 = 0
            lay 0 0 0 = 1
            keep 1 = 0
            lay 0 1 0 = 1
            back 1 = 0
            side 0 0 = 1
            """);
        Script.run("promise 50: no TOWN", "keep 0 = 0\n" + TOWN + """
            lay 0 0 0 = 1
            keep 1 = 0
            back 0 = 0
            leads = -2
            count 0 = 0
            back 1 = 0
            leads = 0
            count 0 = 3
            """);
    }

    private static void goingBack() {
        Script.run("promise 51: no such k; it has nothing", TOWN + """
            lay 0 0 0 = 1
            back -1 = -2
            back 3 = -2
            back 2147483647 = -2
            back -2147483648 = -2
            back 0 = -6
            back 2 = -6
            side 0 0 = 1
            """);
        WallVotes x = Script.run("promise 51", TOWN.replace("storm 50;", "storm 50;"
                + " voter west near 1 light carries 1 far 0; voter east near 1 light carries 1 far 0 to 3;")
                .replace("= 5", "= 7") + """
            vote 1 = 1
            lay 1 2 1 = 1
            election 2 = 1
            take 1 1 = 0
            take 1 0 = 0
            # 2 to 1
            election 5 = 0
            lay 0 2 1 = 1
            rule 2 = 0
            keep 2 = 0
            won 0 = 1
            won 1 = 0
            """);
        String kept = Picture.ofTown(x);
        Script.go(x, "promise 51", """
            take 0 2 = 1
            # COLUMN 1 would be too high beside the last, COLUMN 0 is as near as that
            vote 2 = 2
            election 0 = 0
            """);
        x.run(7, 30);
        x.run(8, 30);
        Script.go(x, "promise 51", """
            count 5 = 63
            rule 1 = 2
            """);
        Script.due("promise 51", "another picture", Picture.ofTown(x).equals(kept) ? 1 : 0, 0);
        Script.due("promise 51", "back(2)", x.back(2), 0);
        Script.due("promise 51: these are as IMAGE k has them", "the picture",
                Picture.ofTown(x).equals(kept) ? 1 : 0, 1);
        Script.go(x, "promise 51", """
            town wall wide 8 high 12 bond 12; storm 1; = 2
            election 0 = 2
            election 0 = 2
            back 2 = 0
            """);
        Script.due("promise 51: TOWN, too", "the picture", Picture.ofTown(x).equals(kept) ? 1 : 0, 1);
        Script.run("promise 51: TAPE, FAULT and SLOTS are no part of it", TOWN + """
            keep 0 = 0
            tape wall wall
            town = -4
            row 1 1 1 = 0
            back 0 = 0
            count 8 = 9
            fault 0 = 1
            fault 1 = 5
            count 12 = 1
            """);
    }

    private static void rows() {
        Script.run("promise 52: SLOT (0 .. 3), WIDTH (0 .. 3), n above 60: -2; below 0: -3", """
            row -1 0 1 = -2
            row 4 0 1 = -2
            row 2147483647 0 1 = -2
            row -2147483648 0 1 = -2
            row 0 -1 1 = -2
            row 0 4 1 = -2
            row 0 2147483647 1 = -2
            row 0 -2147483648 1 = -2
            row 0 0 61 = -2
            row 0 0 2147483647 = -2
            row 0 0 -1 = -3
            row 0 0 -2147483648 = -3
            # no such SLOT or WIDTH, and n is below 0
            row 4 0 -1 = -2
            row 0 4 -1 = -2
            count 12 = 0
            row 0 0 60 = 0
            row 1 1 60 = 0
            row 2 2 60 = 0
            row 3 3 60 = 0
            write 3 59 1 = 0
            row 3 3 0 = 0
            write 3 0 1 = -7
            """);
    }

    private static void rowsInPlace() {
        Script.run("promise 52: all 0 (in place of another one)", TOWN + """
            row 0 1 3 = 0
            write 0 0 99 = 0
            write 0 2 99 = 0
            judge 0 = 0
            row 0 1 2 = 0
            judge 0 = 1
            # number 2 was 99 once, and is 0 now
            row 0 2 3 = 0
            write 0 1 10 = 0
            judge 0 = 3
            """);
        Script.run("promise 52: -3, and the SLOT stays", TOWN + """
            row 0 1 2 = 0
            write 0 0 1010 = 0
            write 0 1 1000 = 0
            row 0 0 -1 = -3
            row 0 0 -2147483648 = -3
            row 0 0 61 = -2
            row 0 4 2 = -2
            judge 0 = 2
            then 0 = 1
            write 0 2 0 = -7
            # of WIDTH 1 still
            write 0 0 65546 = 0
            write 0 1 0 = 0
            judge 0 = 2
            then 0 = 0
            """);
    }

    private static void writing() {
        Script.run("promise 53: -2, -6, -7", TOWN + """
            write -1 0 0 = -2
            write 4 0 0 = -2
            write 2147483647 0 0 = -2
            write -2147483648 0 0 = -2
            write 0 0 0 = -6
            write 3 0 0 = -6
            # it has nothing, so there is no such number either
            write 0 -1 0 = -6
            row 0 0 2 = 0
            write 0 0 10 = 0
            write 0 1 20 = 0
            write 0 2 99 = -7
            write 0 -1 99 = -7
            write 0 60 99 = -7
            write 0 2147483647 99 = -7
            write 0 -2147483648 99 = -7
            judge 0 = 2
            write 1 0 0 = -6
            """);
    }

    private static void cutting() {
        // 10 again, if cut to 1, 2 or 4 bytes
        long[] tens = {266, 65546, 4294967306L, -246, -65526, -4294967286L, 10, Long.MIN_VALUE + 10};
        int[][] due = {
            {1, 1, 1, 1, 1, 1, 1, 1},
            {0, 1, 1, 0, 1, 1, 1, 1},
            {0, 0, 1, 0, 0, 1, 1, 1},
            {0, 0, 0, 0, 0, 0, 1, 0}};
        for (int width = 0; width < 4; width++) {
            for (int i = 0; i < tens.length; i++) {
                one(width, tens[i], due[width][i]);
            }
        }
        Script.run("promise 53: cut to its WIDTH: west's is too great for one byte", TOWN + """
            row 0 0 1 = 0
            # 1000 is 232 in a byte, 1010 is 242, 1024 is 0
            write 0 0 1000 = 0
            judge 0 = 0
            write 0 0 1024 = 0
            judge 0 = 1
            then 0 = 0
            row 0 1 1 = 0
            write 0 0 1000 = 0
            judge 0 = 1
            then 0 = 1
            """);
    }

    private static void pasting() {
        Script.run("promise 54: no such SLOT; one has nothing; not of one WIDTH", TOWN + """
            row 0 1 3 = 0
            row 1 2 3 = 0
            paste -1 0 0 0 1 = -2
            paste 4 0 0 0 1 = -2
            paste 0 0 -1 0 1 = -2
            paste 0 0 4 0 1 = -2
            paste 2147483647 0 0 0 1 = -2
            paste 0 0 -2147483648 0 1 = -2
            # no such SLOT, and the other one has nothing
            paste 4 0 2 0 1 = -2
            paste 2 0 4 0 1 = -2
            paste 0 0 2 0 1 = -6
            paste 2 0 0 0 1 = -6
            paste 2 0 3 0 1 = -6
            paste 2 0 2 0 0 = -6
            # it has nothing, and some are beyond
            paste 0 9 2 0 1 = -6
            paste 0 0 1 0 1 = -8
            paste 1 0 0 0 1 = -8
            paste 0 0 1 0 0 = -8
            # not of one WIDTH, and some are beyond
            paste 0 -1 1 0 1 = -8
            paste 0 0 1 9 1 = -8
            """);
        Script.run("promise 54: from one on", TOWN + """
            row 0 1 3 = 0
            row 1 1 2 = 0
            write 0 0 99 = 0
            write 0 1 1000 = 0
            write 0 2 10 = 0
            paste 0 1 1 0 2 = 0
            judge 1 = 2
            then 1 = 2
            # the first alone
            paste 0 2 1 0 1 = 0
            judge 1 = 1
            paste 0 1 1 1 1 = 0
            judge 1 = 2
            # the last alone
            paste 0 0 1 1 1 = 0
            judge 1 = 1
            # the row that they come from stays
            judge 0 = 0
            paste 0 1 0 0 1 = 0
            judge 0 = 1
            """);
        Script.run("promise 54: all 60", """
            town wall wide 8 high 12 bond 12; sort weight 1 bears 99 many 60; = 2
            row 0 3 60 = 0
            row 1 3 60 = 0
            write 0 59 1000 = 0
            write 0 12 10 = 0
            paste 0 0 1 0 60 = 0
            # the 13th is on COLUMN 1, the 14th would be too high
            judge 1 = 13
            paste 0 59 1 0 1 = 0
            judge 1 = 14
            paste 0 0 1 0 61 = -7
            """);
    }

    private static void pastingItself() {
        Script.run("promise 54: or its own, as they were", TOWN + """
            row 0 1 4 = 0
            write 0 0 20 = 0
            write 0 1 10 = 0
            write 0 2 0 = 0
            write 0 3 99 = 0
            # 20 20 10 0: a copy of one after the other would be 20 20 20 20; the second can't be
            paste 0 0 0 1 3 = 0
            judge 0 = 1
            # 1000 20 10 0: the fourth is not there
            write 0 0 1000 = 0
            judge 0 = 3
            # 20 10 0 0: and back to the front
            paste 0 1 0 0 3 = 0
            judge 0 = 3
            then 0 = 0
            # onto itself
            paste 0 0 0 0 4 = 0
            judge 0 = 3
            paste 0 3 0 3 1 = 0
            judge 0 = 3
            """);
    }

    private static void refusedPastes() {
        Script.run("promise 54: -7, and nothing happens", TOWN + """
            row 0 1 3 = 0
            row 1 1 2 = 0
            write 0 0 99 = 0
            write 0 1 99 = 0
            write 0 2 99 = 0
            write 1 1 10 = 0
            judge 1 = 2
            # beyond the row that they come from
            paste 0 1 1 0 3 = -7
            paste 0 2 1 0 2 = -7
            paste 0 3 1 0 1 = -7
            paste 0 4 1 0 1 = -7
            # beyond the row that they come to
            paste 0 0 1 0 3 = -7
            paste 0 0 1 1 2 = -7
            paste 0 0 1 2 1 = -7
            paste 0 0 1 60 1 = -7
            # below 0
            paste 0 -1 1 0 1 = -7
            paste 0 0 1 -1 1 = -7
            paste 0 0 1 0 -1 = -7
            paste 0 1 1 1 -1 = -7
            # sums that go around
            paste 0 2147483647 1 0 1 = -7
            paste 0 2147483647 1 0 2147483647 = -7
            paste 0 0 1 2147483647 1 = -7
            paste 0 1 1 0 2147483647 = -7
            paste 0 0 1 1 2147483647 = -7
            paste 0 -2147483648 1 0 1 = -7
            paste 0 0 1 -2147483648 1 = -7
            paste 0 0 1 0 -2147483648 = -7
            judge 1 = 2
            # none at all, also at the end
            paste 0 0 1 0 0 = 0
            paste 0 3 1 2 0 = 0
            judge 1 = 2
            """);
    }
}
