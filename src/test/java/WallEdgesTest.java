/**
 * Terms II and promises 6 to 15, 39, 40, 45, 46: each sentence that names a boundary case, by itself.
 */
public final class WallEdgesTest {
    /** Ordinary STONES, and some that bear nothing. */
    private static final String TOWN = "town wall wide 3 high 4 bond 2;"
            + " sort weight 2 bears 9 many 9; sort weight 1 bears 0 many 1; sort weight 9 bears 9 many 0; = 4\n";

    private WallEdgesTest() {
    }

    public static void main(String[] args) {
        high();
        bearing();
        bond();
        joints();
        counts();
        maying();
        laying();
        taking();
        stones();
        sides();
        piles();
        sparing();
        slackening();
        filling();
        leading();
        courses();
        rises();
        risesBesideOpenJoints();
        allEightColumns();
        rules();
        Script.finish();
    }

    private static void high() {
        Script.run("II: fewer than high, 12", """
            town wall wide 1 high 12 bond 1; sort weight 1 bears 99 many 60; = 2
            lay 0 0 0 = 1
            lay 0 0 0 = 2
            lay 0 0 0 = 3
            lay 0 0 0 = 4
            lay 0 0 0 = 5
            lay 0 0 0 = 6
            lay 0 0 0 = 7
            lay 0 0 0 = 8
            lay 0 0 0 = 9
            lay 0 0 0 = 10
            lay 0 0 0 = 11
            may 0 0 0 = 1
            lay 0 0 0 = 12
            may 0 0 0 = 0
            lay 0 0 0 = -5
            spare 0 0 = 0
            stone 0 0 11 0 = 0
            stone 0 0 12 0 = -1
            take 0 0 = 0
            may 0 0 0 = 1
            # the other SIDE has none yet
            may 1 0 0 = 1
            """);
        Script.run("II: fewer than high, 1", """
            town wall wide 2 high 1 bond 12; sort weight 1 bears 99 many 60; = 2
            lay 0 0 0 = 1
            may 0 0 0 = 0
            may 0 1 0 = 1
            lay 0 1 0 = 1
            may 0 1 0 = 0
            """);
    }

    private static void bearing() {
        Script.run("II: bears no more than it can then", """
            town wall wide 1 high 12 bond 12; sort weight 3 bears 6 many 60; sort weight 1 bears 6 many 9; = 3
            lay 0 0 0 = 1
            lay 0 0 0 = 2
            # 6 of 6, and no more
            may 0 0 0 = 1
            lay 0 0 0 = 3
            may 0 0 0 = 0
            may 0 0 1 = 0
            """);
        Script.run("II: it bears 0", """
            town wall wide 1 high 12 bond 12; sort weight 1 bears 0 many 60; = 2
            lay 0 0 0 = 1
            may 0 0 0 = 0
            lay 0 0 0 = -5
            """);
        Script.run("II: each STONE under it: one between", """
            town wall wide 1 high 12 bond 12; sort weight 1 bears 99 many 60; sort weight 1 bears 1 many 60; = 3
            lay 0 0 0 = 1
            lay 0 0 1 = 2
            lay 0 0 0 = 3
            may 0 0 0 = 0
            """);
        Script.run("II: each STONE under it: the lowest", """
            town wall wide 1 high 12 bond 12; sort weight 1 bears 99 many 60; sort weight 1 bears 2 many 60; = 3
            lay 0 0 1 = 1
            lay 0 0 0 = 2
            lay 0 0 0 = 3
            may 0 0 0 = 0
            """);
        Script.run("II: each STONE under it: the highest", """
            town wall wide 1 high 12 bond 12; sort weight 1 bears 99 many 60; sort weight 1 bears 0 many 60; = 3
            lay 0 0 0 = 1
            lay 0 0 0 = 2
            lay 0 0 1 = 3
            may 0 0 0 = 0
            """);
        Script.run("II: weight on it: of all above it, together", """
            town wall wide 1 high 12 bond 12; sort weight 9 bears 99 many 60; sort weight 1 bears 99 many 9; = 3
            lay 0 0 0 = 1
            lay 0 0 0 = 2
            lay 0 0 0 = 3
            lay 0 0 0 = 4
            lay 0 0 0 = 5
            lay 0 0 0 = 6
            lay 0 0 0 = 7
            lay 0 0 0 = 8
            lay 0 0 0 = 9
            lay 0 0 0 = 10
            lay 0 0 1 = 11
            stone 0 0 0 3 = 82
            stone 0 0 9 3 = 1
            stone 0 0 10 3 = 0
            lay 0 0 0 = 12
            stone 0 0 0 3 = 91
            """);
    }

    private static void bond() {
        Script.run("II: no more than bond higher, 1", """
            town wall wide 2 high 12 bond 1; sort weight 1 bears 99 many 60; = 2
            lay 0 0 0 = 1
            lay 0 0 0 = -5
            lay 0 1 0 = 1
            lay 0 1 0 = 2
            lay 0 1 0 = -5
            lay 0 0 0 = 2
            lay 0 0 0 = 3
            lay 0 0 0 = -5
            """);
        Script.run("II: no more than bond higher, 3", """
            town wall wide 2 high 12 bond 3; sort weight 1 bears 99 many 60; = 2
            lay 1 1 0 = 1
            lay 1 1 0 = 2
            may 1 1 0 = 1
            lay 1 1 0 = 3
            may 1 1 0 = 0
            lay 1 0 0 = 1
            may 1 1 0 = 1
            lay 1 1 0 = 4
            may 1 1 0 = 0
            """);
        WallVotes x = Script.run("II: bond 12", """
            town wall wide 2 high 12 bond 12; sort weight 1 bears 99 many 60; = 2
            """);
        for (int height = 1; height <= 12; height++) {
            Script.due("II: bond 12", "lay", x.lay(0, 1, 0), height);
        }
        WallVotes y = Script.run("II: bond 11", """
            town wall wide 2 high 12 bond 11; sort weight 1 bears 99 many 60; = 2
            """);
        for (int height = 1; height <= 12; height++) {
            Script.due("II: bond 11", "lay", y.lay(0, 0, 0), height <= 11 ? height : -5);
        }
        Script.run("II: a COLUMN beside it, on each hand", """
            town wall wide 3 high 12 bond 1; sort weight 1 bears 99 many 60; = 2
            lay 0 0 0 = 1
            lay 0 1 0 = 1
            # the one on the right is too low
            may 0 1 0 = 0
            # the first and the last have one beside them alone
            may 0 0 0 = 1
            lay 0 2 0 = 1
            may 0 1 0 = 1
            may 0 2 0 = 1
            take 0 0 = 0
            # the one on the left is too low
            may 0 1 0 = 0
            may 0 2 0 = 1
            # one that is lower than those beside it may always be
            may 0 0 0 = 1
            """);
        Script.run("II: of the same SIDE", """
            town wall wide 8 high 12 bond 1; sort weight 1 bears 99 many 60; = 2
            # east's last COLUMN has none beside it on the right: west's first is not
            lay 0 6 0 = 1
            lay 0 7 0 = 1
            may 0 7 0 = 1
            lay 0 7 0 = 2
            # west's first has none on the left, and east's last does not help it either
            lay 1 0 0 = 1
            may 1 0 0 = 0
            lay 1 1 0 = 1
            may 1 0 0 = 1
            """);
        Script.run("II: one COLUMN has none beside it", """
            town wall wide 1 high 3 bond 1; sort weight 1 bears 99 many 60; = 2
            lay 0 0 0 = 1
            lay 0 0 0 = 2
            lay 0 0 0 = 3
            side 0 4 = 0
            """);
    }

    private static void joints() {
        Script.run("II: open if more than bond higher", """
            town wall wide 3 high 12 bond 2; sort weight 1 bears 99 many 60; = 2
            side 0 4 = 0
            lay 0 0 0 = 1
            lay 0 0 0 = 2
            # 2 0 0: just bond
            side 0 4 = 0
            lay 0 1 0 = 1
            lay 0 0 0 = 3
            side 0 4 = 0
            take 0 1 = 0
            # 3 0 0: more
            side 0 4 = 1
            lay 0 1 0 = 1
            lay 0 2 0 = 1
            lay 0 1 0 = 2
            lay 0 1 0 = 3
            take 0 0 = 0
            take 0 0 = 0
            take 0 0 = 0
            take 0 2 = 0
            # 0 3 0: both, whichever is the higher
            side 0 4 = 2
            side 1 4 = 0
            """);
    }

    private static void counts() {
        Script.run("II: COUNT by each rule", TOWN + """
            lay 0 0 0 = 1
            lay 0 0 1 = 2
            lay 0 2 0 = 1
            side 0 0 = 3
            side 0 1 = 5
            side 0 2 = 2
            side 0 3 = 3
            rule 1 = 0
            side 0 3 = 5
            rule 2 = 1
            side 0 3 = 2
            """);
        Script.run("II: COUNT of a SIDE that has nothing, by each rule", TOWN + """
            side 0 3 = 0
            rule 1 = 0
            side 0 3 = 0
            rule 2 = 1
            side 0 3 = 0
            leads = 2
            """);
    }

    private static void maying() {
        Script.run("promise 6: whether there is one or not", TOWN + """
            pile 2 = 0
            may 0 0 2 = 1
            lay 0 0 1 = 1
            pile 1 = 0
            may 0 1 1 = 1
            may 0 0 1 = 0
            """);
        Script.run("promise 6: -2", TOWN + """
            may -1 0 0 = -2
            may 2 0 0 = -2
            may 2147483647 0 0 = -2
            may -2147483648 0 0 = -2
            may 0 -1 0 = -2
            may 0 3 0 = -2
            may 1 2147483647 0 = -2
            may 1 -2147483648 0 = -2
            may 0 0 -1 = -2
            may 0 0 3 = -2
            may 0 0 2147483647 = -2
            may 0 0 -2147483648 = -2
            may 1 2 2 = 1
            # a COLUMN of another SIDE by its number is none
            may 0 8 0 = -2
            may 1 -8 0 = -2
            """);
    }

    private static void laying() {
        Script.run("promise 7: -2 likewise", TOWN + """
            lay -1 0 0 = -2
            lay 2 0 0 = -2
            lay 0 -1 0 = -2
            lay 0 3 0 = -2
            lay 0 0 -1 = -2
            lay 0 0 3 = -2
            lay 0 8 0 = -2
            lay 1 -8 0 = -2
            side 0 0 = 0
            side 1 0 = 0
            pile 0 = 9
            """);
        Script.run("promise 7: -3, by nobody", TOWN + """
            lay 0 0 2 = -3
            lay 0 0 1 = 1
            stone 0 0 0 1 = -1
            stone 0 0 0 2 = 0
            lay 0 1 1 = -3
            # there is none, and it may not
            lay 0 0 1 = -3
            side 0 0 = 1
            pile 1 = 0
            pile 2 = 0
            """);
        Script.run("promise 7: -5", TOWN + """
            lay 0 0 1 = 1
            lay 0 0 0 = -5
            pile 0 = 9
            side 0 0 = 1
            """);
        Script.run("promise 7: the last of 60", """
            town wall wide 8 high 12 bond 12; sort weight 1 bears 99 many 60; = 2
            """ + "lay 0 @ 0 = 1\nlay 0 @ 0 = 2\nlay 0 @ 0 = 3\nlay 0 @ 0 = 4\nlay 0 @ 0 = 5\n"
                .replace("@", "0") + sixOn(0, 6) + sixOn(1, 1) + sixOn(2, 1) + sixOn(3, 1)
                + sixOn(4, 1) + sixOn(5, 1) + sixOn(6, 1) + sixOn(7, 1) + """
            pile 0 = 7
            lay 0 1 0 = 7
            lay 0 1 0 = 8
            lay 0 1 0 = 9
            lay 0 1 0 = 10
            lay 0 1 0 = 11
            lay 0 1 0 = 12
            pile 0 = 1
            lay 0 2 0 = 7
            pile 0 = 0
            lay 0 2 0 = -3
            side 0 0 = 60
            """);
    }

    private static String sixOn(int column, int first) {
        StringBuilder lines = new StringBuilder();
        for (int height = first; height < first + 6; height++) {
            lines.append("lay 0 ").append(column).append(" 0 = ").append(height).append('\n');
        }
        return lines.toString();
    }

    private static void taking() {
        Script.run("promise 8: the highest one", TOWN + """
            lay 0 1 0 = 1
            lay 0 1 1 = 2
            take 0 1 = 1
            pile 1 = 1
            take 0 1 = 0
            pile 0 = 9
            # -5: it has none
            take 0 1 = -5
            take 1 1 = -5
            pile 0 = 9
            pile 1 = 1
            side 0 0 = 0
            """);
        Script.run("promise 8: -2", TOWN + """
            take -1 0 = -2
            take 2 0 = -2
            take 0 -1 = -2
            take 0 3 = -2
            take 2147483647 0 = -2
            take 0 2147483647 = -2
            take 0 -2147483648 = -2
            lay 1 0 0 = 1
            take 0 8 = -2
            side 1 0 = 1
            """);
    }

    private static void stones() {
        Script.run("promise 9: NONE: there is none such", TOWN + """
            stone 0 0 0 0 = -1
            lay 0 0 0 = 1
            lay 0 0 0 = 2
            stone 0 0 0 0 = 0
            stone 0 0 1 0 = 0
            stone 0 0 2 0 = -1
            stone 0 0 -1 0 = -1
            stone 0 0 12 3 = -1
            stone 0 0 2147483647 0 = -1
            stone 0 0 -2147483648 0 = -1
            # a COLUMN's STONES are no other's
            stone 0 1 0 0 = -1
            stone 0 1 -12 0 = -1
            stone 1 0 0 0 = -1
            take 0 0 = 0
            stone 0 0 1 0 = -1
            """);
        Script.run("promise 9: -2: no such COLUMN, what", TOWN + """
            lay 0 0 0 = 1
            stone -1 0 0 0 = -2
            stone 2 0 0 0 = -2
            stone 0 -1 0 0 = -2
            stone 0 3 0 0 = -2
            stone 0 8 0 0 = -2
            stone 0 0 0 -1 = -2
            stone 0 0 0 4 = -2
            stone 0 0 0 2147483647 = -2
            stone 0 0 0 -2147483648 = -2
            # neither the STONE nor the what
            stone 0 0 1 4 = -2
            stone 0 3 9 0 = -2
            # HAND: the voter; NONE: nobody; the YEAR; nothing on it
            stone 0 0 0 1 = -1
            stone 0 0 0 2 = 0
            stone 0 0 0 3 = 0
            """);
    }

    private static void sides() {
        Script.run("promise 10: -2", TOWN + """
            side 0 -1 = -2
            side 0 5 = -2
            side 0 2147483647 = -2
            side 0 -2147483648 = -2
            side -1 0 = -2
            side 2 0 = -2
            side 2147483647 0 = -2
            side -2147483648 0 = -2
            side 0 0 = 0
            side 1 4 = 0
            """);
        Script.run("promise 13: -2", TOWN + """
            slack -1 = -2
            slack 2 = -2
            slack 2147483647 = -2
            slack -2147483648 = -2
            """);
        Script.run("promise 46: -2", TOWN + """
            suits -1 = -2
            suits 2 = -2
            suits 2147483647 = -2
            suits -2147483648 = -2
            """);
    }

    private static void piles() {
        Script.run("promise 11: -2", TOWN + """
            pile -1 = -2
            pile 3 = -2
            pile 2147483647 = -2
            pile -2147483648 = -2
            pile 2 = 0
            """);
        Script.run("promise 11: a TOWN without SORTS", """
            town wall wide 1 high 1 bond 1; = 1
            pile 0 = -2
            may 0 0 0 = -2
            lay 0 0 0 = -2
            fill 0 0 = -2
            # but a STONE of any weight may be laid
            spare 0 0 = 9
            """);
    }

    private static void sparing() {
        Script.run("promise 12: the greatest weight (1 .. 9)", """
            town wall wide 1 high 12 bond 12; sort weight 1 bears 10 many 60; sort weight 1 bears 9 many 60; sort weight 1 bears 8 many 60; sort weight 1 bears 1 many 60; sort weight 1 bears 0 many 60; = 6
            spare 0 0 = 9
            lay 0 0 0 = 1
            # 10 could be borne, but no STONE weighs as much
            spare 0 0 = 9
            lay 0 0 1 = 2
            spare 0 0 = 9
            lay 0 0 2 = 3
            # 8 by the lowest too: 10 less 2
            spare 0 0 = 8
            lay 0 0 3 = 4
            spare 0 0 = 1
            lay 0 0 4 = 5
            spare 0 0 = 0
            """);
        Script.run("promise 12: 0: none may, by high", """
            town wall wide 1 high 1 bond 12; sort weight 1 bears 99 many 60; = 2
            lay 0 0 0 = 1
            spare 0 0 = 0
            """);
        Script.run("promise 12: 0: none may, by bond", """
            town wall wide 2 high 12 bond 1; sort weight 1 bears 99 many 60; = 2
            lay 0 0 0 = 1
            spare 0 0 = 0
            spare 0 1 = 9
            lay 0 1 0 = 1
            spare 0 0 = 9
            """);
        Script.run("promise 12: -2", TOWN + """
            spare -1 0 = -2
            spare 2 0 = -2
            spare 0 -1 = -2
            spare 0 3 = -2
            spare 0 8 = -2
            spare 0 2147483647 = -2
            spare -2147483648 0 = -2
            """);
    }

    private static void slackening() {
        Script.run("promise 13: NONE: it has no STONE", TOWN + """
            slack 0 = -1
            lay 0 0 0 = 1
            slack 0 = 9
            slack 1 = -1
            lay 0 1 1 = 1
            # the one that bears nothing
            slack 0 = 0
            take 0 1 = 1
            slack 0 = 9
            take 0 0 = 0
            slack 0 = -1
            """);
        Script.run("promise 13: a STONE of any COLUMN, also where none may be laid", """
            town wall wide 2 high 2 bond 2; sort weight 9 bears 99 many 60; sort weight 1 bears 11 many 60; = 3
            lay 0 0 0 = 1
            lay 0 0 0 = 2
            slack 0 = 90
            lay 0 1 1 = 1
            slack 0 = 11
            lay 0 1 0 = 2
            # 9 of its 11, in a COLUMN that is full
            slack 0 = 2
            """);
    }

    private static void filling() {
        Script.run("promise 14: whatever is on the PILE", TOWN + """
            # none on the PILE; 9 bears one more of 9: two on each
            fill 0 2 = 6
            fill 1 2 = 6
            # one on the PILE, which bears none
            fill 0 1 = 3
            side 0 0 = 0
            pile 2 = 0
            """);
        Script.run("promise 14: none can be", """
            town wall wide 1 high 1 bond 1; sort weight 1 bears 0 many 60; = 2
            fill 0 0 = 1
            lay 0 0 0 = 1
            fill 0 0 = 0
            fill 1 0 = 1
            """);
        Script.run("promise 14: all that a SIDE has room for", """
            town wall wide 8 high 12 bond 12; sort weight 1 bears 99 many 0; = 2
            fill 0 0 = 96
            """);
        Script.run("promise 14: the lowest on which it may", """
            town wall wide 3 high 12 bond 1; sort weight 1 bears 2 many 0; sort weight 1 bears 0 many 9; = 3
            # three each
            fill 0 0 = 9
            lay 0 2 1 = 1
            # 0 0 1, of which the last bears none: the next to it has two, the first three
            fill 0 0 = 5
            """);
        Script.run("promise 14: -2", TOWN + """
            fill -1 0 = -2
            fill 2 0 = -2
            fill 0 -1 = -2
            fill 0 3 = -2
            fill 0 2147483647 = -2
            fill -2147483648 0 = -2
            """);
    }

    private static void leading() {
        Script.run("promise 15: 2: alike", TOWN + """
            leads = 2
            lay 0 0 0 = 1
            leads = 0
            lay 1 2 0 = 1
            leads = 2
            lay 1 0 1 = 1
            leads = 1
            """);
    }

    private static void courses() {
        Script.run("promise 39: n (1 .. 12)", """
            town wall wide 2 high 12 bond 12; sort weight 1 bears 99 many 60; = 2
            course 0 1 = 0
            lay 0 1 0 = 1
            course 0 1 = 1
            course 0 2 = 0
            """ + "lay 0 1 0 = 2\nlay 0 1 0 = 3\nlay 0 1 0 = 4\nlay 0 1 0 = 5\nlay 0 1 0 = 6\n"
                + "lay 0 1 0 = 7\nlay 0 1 0 = 8\nlay 0 1 0 = 9\nlay 0 1 0 = 10\nlay 0 1 0 = 11\n" + """
            course 0 12 = 0
            course 0 11 = 1
            lay 0 1 0 = 12
            course 0 12 = 1
            course 1 12 = 0
            """);
        Script.run("promise 39: n STONES or more, the first and the last COLUMN", TOWN + """
            lay 0 0 0 = 1
            lay 0 2 0 = 1
            lay 0 2 0 = 2
            course 0 1 = 2
            course 0 2 = 1
            course 0 3 = 0
            """);
        Script.run("promise 39: n above high", TOWN + """
            course 0 4 = 0
            course 0 5 = 0
            course 0 12 = 0
            """);
        Script.run("promise 39: -2", TOWN + """
            course 0 0 = -2
            course 0 -1 = -2
            course 0 13 = -2
            course 0 2147483647 = -2
            course 0 -2147483648 = -2
            course -1 1 = -2
            course 2 1 = -2
            """);
    }

    private static void rises() {
        Script.run("promise 40: n (0 .. 12)", """
            town wall wide 2 high 12 bond 12; sort weight 1 bears 0 many 1; = 2
            rise 0 0 0 = 0
            # whatever STONES bear, whatever is on the PILE
            rise 0 0 12 = 12
            rise 0 0 13 = -2
            rise 0 0 -1 = -2
            rise 0 0 2147483647 = -2
            rise 0 0 -2147483648 = -2
            lay 0 0 0 = 1
            rise 0 0 0 = 0
            rise 0 0 1 = 0
            rise 0 0 2 = 1
            """);
        Script.run("promise 40: NONE: n is above high", TOWN + """
            rise 0 0 4 = 6
            rise 0 0 5 = -1
            rise 0 0 12 = -1
            rise 0 0 13 = -2
            """);
        Script.run("promise 40: -2", TOWN + """
            rise -1 0 1 = -2
            rise 2 0 1 = -2
            rise 0 -1 1 = -2
            rise 0 3 1 = -2
            rise 0 8 1 = -2
            # also where n is above high
            rise 0 3 5 = -2
            """);
        Script.run("promise 40: by bond", """
            town wall wide 8 high 12 bond 1; sort weight 1 bears 99 many 60; = 2
            # 12, 11, 10, 9, 8, 7, 6, 5
            rise 0 0 12 = 68
            rise 1 7 12 = 68
            # 12; 11, 10, 9; 11, 10, 9, 8
            rise 0 3 12 = 80
            rise 0 3 1 = 1
            # 2, 1, 1
            rise 0 3 2 = 4
            rise 0 0 2 = 3
            """);
        Script.run("promise 40: just as high as it must be beside it", """
            town wall wide 2 high 12 bond 2; sort weight 1 bears 99 many 60; = 2
            rise 0 0 2 = 2
            rise 0 0 3 = 4
            lay 0 1 0 = 1
            rise 0 0 3 = 3
            rise 0 0 4 = 5
            """);
    }

    private static void risesBesideOpenJoints() {
        Script.run("promise 40: it has n already, whatever is beside it", """
            town wall wide 4 high 12 bond 1; sort weight 1 bears 99 many 60; = 2
            lay 0 0 0 = 1
            lay 0 1 0 = 1
            lay 0 2 0 = 1
            lay 0 0 0 = 2
            lay 0 1 0 = 2
            lay 0 0 0 = 3
            take 0 1 = 0
            take 0 2 = 0
            # heights 3 1 0 0
            rise 0 0 3 = 0
            rise 0 0 2 = 0
            rise 0 0 0 = 0
            # 1 of its own, and 2 1 beside it, and one behind these
            rise 0 0 4 = 6
            # just high enough beside it: nothing behind it
            rise 0 1 1 = 0
            rise 0 2 2 = 3
            take 0 0 = 0
            take 0 0 = 0
            take 0 0 = 0
            # heights 0 1 0 0: for 2 the one beside it is just high enough, though 0 is beside that
            rise 0 2 2 = 3
            lay 0 0 0 = 1
            lay 0 2 0 = 1
            lay 0 1 0 = 2
            take 0 2 = 0
            take 0 0 = 0
            # heights 0 2 0 0: for 3 just high enough again, whatever is behind it
            rise 0 0 3 = 3
            rise 0 2 3 = 5
            """);
    }

    /** East's last COLUMN and west's first may lie side by side in the class, but not in the WALL. */
    private static void allEightColumns() {
        Script.run("II: COLUMNS 0 .. 7 of a SIDE, and no more", """
            town wall wide 8 high 12 bond 12; sort weight 2 bears 9 many 9; sort weight 1 bears 0 many 9; = 3
            lay 1 0 1 = 1
            slack 0 = -1
            course 0 1 = 0
            side 0 2 = 0
            fill 0 1 = 8
            lay 0 7 0 = 1
            slack 0 = 9
            course 0 1 = 1
            course 1 1 = 1
            lay 1 7 0 = 1
            slack 1 = 0
            take 1 0 = 1
            slack 1 = 9
            course 1 1 = 1
            side 0 4 = 0
            side 1 2 = 1
            spare 0 8 = -2
            rise 0 7 12 = 11
            """);
    }

    private static void rules() {
        Script.run("promise 45: which it was; -2", TOWN + """
            rule 3 = -2
            rule -1 = -2
            rule 2147483647 = -2
            rule -2147483648 = -2
            count 9 = 0
            rule 0 = 0
            rule 2 = 0
            rule 3 = -2
            count 9 = 2
            rule 1 = 2
            rule 0 = 1
            count 9 = 0
            """);
        Script.run("promise 46: the first of several; NONE: by none", TOWN + """
            suits 0 = -1
            suits 1 = -1
            lay 0 0 0 = 1
            # by all three
            suits 0 = 0
            suits 1 = -1
            lay 1 0 0 = 1
            suits 0 = -1
            lay 1 1 1 = 1
            lay 0 1 0 = 1
            # 2 to 2, 4 to 3
            suits 0 = 1
            suits 1 = -1
            # whatever the rule is
            rule 2 = 0
            suits 0 = 1
            leads = 2
            take 1 1 = 1
            lay 1 0 1 = 2
            # 2 to 2, 4 to 3, 1 to 2
            suits 1 = 2
            suits 0 = 1
            """);
    }
}
