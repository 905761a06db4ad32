/** Promises 47 to 54: rows judged, what can be counted, IMAGES, SLOTS. */
public final class KeepingTest {
    private static final String TOWN = "town wall wide 2 high 3 bond 1; sort weight 1 bears 9 many 3;"
            + " sort weight 4 bears 3 many 2; voter east low light carries 1 far 0;"
            + " voter west low light carries 1 far 0 from 1; = 5\n";

    private KeepingTest() {
    }

    public static void main(String[] args) {
        judging();
        counting();
        images();
        rows();
        widths();
        pasting();
        Script.finish();
    }

    private static void judging() {
        Script.run("promises 47, 48", """
            row 0 1 3 = 0
            judge 0 = -2
            then 0 = -2
            """ + TOWN + """
            judge 1 = -6
            then 1 = -6
            judge 4 = -2
            judge -1 = -2
            then 4 = -2
            then -1 = -2
            # 0, 0: the second is too high beside an empty COLUMN
            judge 0 = 1
            then 0 = 0
            write 0 1 1010 = 0
            write 0 2 1001 = 0
            judge 0 = 3
            then 0 = 1
            rule 1 = 0
            then 0 = 1
            rule 2 = 1
            then 0 = 2
            rule 0 = 2
            side 0 0 = 0
            side 1 0 = 0
            pile 0 = 3
            # what can't be: SIDE 2, COLUMN 2, SORT 2, below 0
            write 0 1 2000 = 0
            judge 0 = 1
            write 0 1 20 = 0
            judge 0 = 1
            write 0 1 2 = 0
            judge 0 = 1
            write 0 1 -1 = 0
            judge 0 = 1
            then 0 = 0
            write 0 1 10 = 0
            judge 0 = 3
            then 0 = 0
            write 0 0 30000 = 0
            judge 0 = 0
            then 0 = 2
            row 0 1 0 = 0
            judge 0 = 0
            then 0 = 2
            """);
        Script.run("promise 47: the PILE, and what is borne", TOWN + """
            row 2 3 5 = 0
            write 2 0 11 = 0
            write 2 1 0 = 0
            write 2 2 10 = 0
            write 2 3 1000 = 0
            write 2 4 1010 = 0
            # the fourth STONE of SORT 0 is not there
            judge 2 = 4
            then 2 = 0
            # nor would 4 be borne by 3
            write 2 2 11 = 0
            judge 2 = 2
            lay 0 0 0 = 1
            # with one more in the WALL 0 is laid on it, 10 is borne, 1000 is the one too many
            write 2 2 10 = 0
            judge 2 = 3
            write 2 0 1000000000000 = 0
            judge 2 = 0
            write 2 0 4294967296 = 0
            judge 2 = 0
            """);
        Script.run("promise 47: the last COLUMN and SORT", """
            town wall wide 8 high 1 bond 1; sort weight 1 bears 0 many 1; sort weight 1 bears 0 many 1; sort weight 1 bears 0 many 1; sort weight 1 bears 0 many 1; sort weight 1 bears 0 many 2; = 6
            row 0 1 3 = 0
            write 0 0 74 = 0
            write 0 1 1074 = 0
            write 0 2 1063 = 0
            judge 0 = 3
            then 0 = 1
            write 0 2 1073 = 0
            judge 0 = 2
            then 0 = 2
            write 0 0 80 = 0
            judge 0 = 0
            write 0 0 75 = 0
            judge 0 = 0
            """);
    }

    private static void counting() {
        Script.run("promise 49", """
            town wall wide 5 high 7 bond 3; sort weight 1 bears 9 many 3; sort weight 2 bears 9 many 3; voter east low light carries 1 far 0; voter west low light carries 1 far 0 from 1; voter west low light carries 1 far 0 to 0; rule heavier; storm 12; mason 6; = 9
            count 0 = 5
            count 1 = 7
            count 2 = 3
            count 3 = 2
            count 4 = 3
            count 5 = 0
            count 6 = 2
            count 7 = 9
            count 8 = 0
            count 9 = 1
            count 10 = 12
            count 11 = 5
            count 12 = 0
            count 13 = -1
            count -1 = -1
            election 4 = 1
            count 5 = 1
            count 6 = 1
            count 11 = 3
            row 3 0 0 = 0
            count 12 = 1
            row 3 1 9 = 0
            count 12 = 1
            row 0 0 60 = 0
            count 12 = 2
            feed 0 0 0 0 0 = 20
            count 8 = 20
            """);
    }

    private static void images() {
        Script.run("promises 50, 51", TOWN + """
            back 0 = -6
            back 2 = -6
            back 3 = -2
            back -1 = -2
            keep 3 = -2
            keep -1 = -2
            lay 1 0 1 = 1
            vote 0 = 1
            election 1 = 0
            rule 2 = 0
            row 0 0 1 = 0
            keep 0 = 0
            count 5 = 1
            # all of it goes on
            lay 1 1 1 = 1
            election 3 = 0
            vote 0 = -1
            take 0 0 = 0
            rule 1 = 2
            keep 1 = 0
            row 1 0 1 = 0
            tape wall wide
            town = -4
            back 0 = 0
            count 5 = 1
            count 6 = 0
            count 9 = 2
            won 0 = 0
            won 1 = -2
            votes 0 0 = 2
            lost = 0
            pile 0 = 1
            pile 1 = 1
            side 0 0 = 2
            side 1 0 = 1
            stone 0 0 0 1 = 0
            stone 1 0 0 0 = 1
            spare 1 0 = 0
            spare 1 1 = 9
            take 1 0 = 1
            spare 1 0 = 9
            slack 1 = -1
            # TAPE, SLOTS and FAULT are no part of it
            count 8 = 9
            count 12 = 2
            fault 0 = 1
            # the IMAGE has not changed by what came behind it
            back 0 = 0
            side 1 0 = 1
            back 1 = 0
            count 5 = 2
            count 9 = 1
            side 0 0 = 2
            lost = 1
            pile 1 = 0
            back 2 = -6
            # another TOWN, and back to the old one
            town wall wide 5 high 2 bond 1; storm 50; = 2
            count 0 = 5
            keep 1 = 0
            back 0 = 0
            count 0 = 2
            count 1 = 3
            count 2 = 1
            count 3 = 2
            count 4 = 2
            count 7 = 5
            count 10 = 0
            hands 0 = 2
            back 1 = 0
            count 0 = 5
            count 7 = 2
            count 10 = 50
            count 5 = 0
            count 6 = 2
            lost = 0
            pile 0 = -2
            """);
        Script.run("an IMAGE of no TOWN", "keep 2 = 0\n" + TOWN + """
            lay 0 0 0 = 1
            back 2 = 0
            count 0 = 0
            count 7 = 0
            leads = -2
            pile 0 = -2
            """);
    }

    private static void rows() {
        Script.run("promises 52, 53", TOWN + """
            row 4 0 1 = -2
            row -1 0 1 = -2
            row 0 4 1 = -2
            row 0 -1 1 = -2
            row 0 0 61 = -2
            row 4 0 -1 = -2
            row 0 4 -1 = -2
            row 0 0 -1 = -3
            write 0 0 1 = -6
            write 4 0 1 = -2
            write -1 0 1 = -2
            count 12 = 0
            row 0 0 60 = 0
            write 0 59 1 = 0
            write 0 60 1 = -7
            write 0 -1 1 = -7
            row 0 0 2 = 0
            write 0 0 10 = 0
            write 0 1 0 = 0
            write 0 2 0 = -7
            judge 0 = 2
            # the SLOT stays
            row 0 0 -1 = -3
            row 0 0 61 = -2
            row 0 4 2 = -2
            judge 0 = 2
            # all 0, in place of another one
            row 0 0 2 = 0
            judge 0 = 1
            row 0 0 0 = 0
            write 0 0 0 = -7
            judge 0 = 0
            count 12 = 1
            """);
    }

    /** A number that is cut is 10 again, and so a STONE that can be; one too long is none. */
    private static void widths() {
        Script.run("promise 53, cut", TOWN + """
            row 0 0 1 = 0
            write 0 0 266 = 0
            judge 0 = 1
            write 0 0 -246 = 0
            judge 0 = 1
            write 0 0 1000 = 0
            judge 0 = 0
            row 1 1 1 = 0
            write 1 0 266 = 0
            judge 1 = 0
            write 1 0 1010 = 0
            judge 1 = 1
            write 1 0 65546 = 0
            judge 1 = 1
            row 2 2 1 = 0
            write 2 0 65546 = 0
            judge 2 = 0
            write 2 0 4294967306 = 0
            judge 2 = 1
            row 3 3 1 = 0
            write 3 0 4294967306 = 0
            judge 3 = 0
            write 3 0 -9223372036854775808 = 0
            judge 3 = 0
            write 3 0 10 = 0
            judge 3 = 1
            """);
    }

    private static void pasting() {
        Script.run("promise 54", TOWN + """
            row 0 1 4 = 0
            row 1 1 2 = 0
            row 2 2 4 = 0
            paste 4 0 0 0 1 = -2
            paste 0 0 4 0 1 = -2
            paste -1 0 0 0 1 = -2
            paste 0 0 -1 0 1 = -2
            paste 0 0 3 0 1 = -6
            paste 3 0 0 0 1 = -6
            paste 0 0 2 0 1 = -8
            paste 0 -1 2 0 1 = -8
            paste 0 -1 1 0 1 = -7
            paste 0 0 1 -1 1 = -7
            paste 0 0 1 0 -1 = -7
            paste 0 0 1 0 3 = -7
            paste 1 0 0 0 3 = -7
            paste 0 3 1 0 2 = -7
            paste 0 0 1 1 2 = -7
            paste 0 2147483647 1 0 1 = -7
            paste 0 0 1 2147483647 1 = -7
            paste 0 1 1 1 2147483647 = -7
            paste 0 4 1 2 0 = 0
            # none at all, but from a place that is not there (a choice, see NOTES.md)
            paste 0 5 1 2 0 = -7
            paste 0 4 1 3 0 = -7
            # all can be
            write 0 0 10 = 0
            write 0 1 1010 = 0
            write 0 2 0 = 0
            write 0 3 1001 = 0
            judge 0 = 4
            paste 0 1 1 0 2 = 0
            # 1010, 0
            judge 1 = 2
            then 1 = 2
            paste 0 0 1 1 1 = 0
            # 1010, 10
            judge 1 = 2
            then 1 = 2
            paste 0 3 1 1 1 = 0
            # 1010, 1001
            then 1 = 1
            # its own row, as they were: 10, 10, 1010, 0: the second 10 can't be
            paste 0 0 0 1 3 = 0
            judge 0 = 1
            write 0 0 0 = 0
            # 0, 10, 1010, 0: the fourth of that SORT is not there
            judge 0 = 3
            write 0 3 1001 = 0
            judge 0 = 4
            # and to the front: 10, 1010, 1001, 1001: the second of these can't be
            paste 0 1 0 0 3 = 0
            judge 0 = 3
            then 0 = 1
            """);
        // nothing happens by a paste that goes beyond
        Script.run("promise 54, -7", TOWN + """
            row 0 0 2 = 0
            row 1 0 3 = 0
            write 1 0 99 = 0
            write 1 1 99 = 0
            paste 1 0 0 0 3 = -7
            judge 0 = 1
            paste 1 1 0 0 1 = 0
            judge 0 = 0
            """);
    }
}
