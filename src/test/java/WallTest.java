/** Promises 6 to 15, 38 to 40, 45, 46: the WALL, what may be laid on it, who leads by which rule. */
public final class WallTest {
    private WallTest() {
    }

    public static void main(String[] args) {
        layingAndTaking();
        highBondAndBearing();
        filling();
        leading();
        rising();
        Script.finish();
    }

    private static void layingAndTaking() {
        Script.run("promises 6 to 13", """
            town wall wide 3 high 4 bond 2; sort weight 2 bears 5 many 6; sort weight 3 bears 2 many 2; sort weight 9 bears 99 many 1; = 4
            may 0 0 0 = 1
            may 1 2 2 = 1
            may -1 0 0 = -2
            may 2 0 0 = -2
            may 0 -1 0 = -2
            may 0 3 0 = -2
            may 0 0 -1 = -2
            may 0 0 3 = -2
            lay 2 0 0 = -2
            lay 0 3 0 = -2
            lay 0 0 3 = -2
            spare 0 0 = 9
            slack 0 = -1
            lay 0 0 0 = 1
            lay 0 0 0 = 2
            # 3 would be more than 2 above the empty COLUMN beside it
            may 0 0 0 = 0
            lay 0 0 0 = -5
            spare 0 0 = 0
            lay 0 1 0 = 1
            lay 0 0 0 = 3
            lay 0 1 0 = 2
            # the lowest bears 4 of its 5
            may 0 0 0 = 0
            may 0 0 1 = 0
            lay 0 0 0 = -5
            spare 0 0 = 1
            spare 0 1 = 0
            spare 0 3 = -2
            spare 2 0 = -2
            stone 0 0 0 0 = 0
            stone 0 0 0 1 = -1
            stone 0 0 0 2 = 0
            stone 0 0 0 3 = 4
            stone 0 0 1 3 = 2
            stone 0 0 2 3 = 0
            stone 0 0 3 3 = -1
            stone 0 0 -1 0 = -1
            stone 0 2 0 0 = -1
            stone 0 0 0 4 = -2
            stone 0 0 0 -1 = -2
            stone 0 3 0 0 = -2
            stone 0 -1 0 0 = -2
            stone 2 0 0 0 = -2
            stone 0 0 9 4 = -2
            pile 0 = 1
            pile 1 = 2
            pile 2 = 1
            pile 3 = -2
            pile -1 = -2
            side 0 0 = 5
            side 0 1 = 10
            side 0 2 = 3
            side 0 3 = 5
            side 0 4 = 0
            side 1 0 = 0
            side 1 1 = 0
            side 1 2 = 0
            side 0 5 = -2
            side 0 -1 = -2
            side 2 0 = -2
            side -1 0 = -2
            slack 0 = 1
            slack 1 = -1
            slack 2 = -2
            slack -1 = -2
            take 0 1 = 0
            side 0 4 = 0
            take 0 1 = 0
            side 0 4 = 1
            take 0 1 = -5
            take 0 3 = -2
            take 0 -1 = -2
            take 2 0 = -2
            pile 0 = 3
            side 0 0 = 3
            side 0 1 = 6
            lay 1 2 2 = 1
            lay 1 2 2 = -3
            pile 2 = 0
            may 1 2 2 = 1
            lay 1 2 1 = 2
            # the highest bears 2
            spare 1 2 = 0
            take 1 2 = 1
            take 1 2 = 2
            pile 2 = 1
            # it is the SORT of the STONE that goes, and the one below is free again
            lay 1 2 1 = 1
            slack 1 = 2
            lay 1 2 0 = 2
            slack 1 = 0
            stone 1 2 0 0 = 1
            stone 1 2 1 0 = 0
            stone 1 2 0 3 = 2
            take 1 2 = 0
            spare 1 2 = 2
            """);
    }

    private static void highBondAndBearing() {
        Script.run("high", """
            town wall wide 1 high 2 bond 1; sort weight 1 bears 9 many 3; sort weight 1 bears 9 many 0; = 3
            may 0 0 1 = 1
            lay 0 0 1 = -3
            lay 0 0 0 = 1
            # one COLUMN has none beside it
            lay 0 0 0 = 2
            may 0 0 0 = 0
            lay 0 0 0 = -5
            # none on the PILE comes ahead of what may not be
            lay 0 0 1 = -3
            spare 0 0 = 0
            side 0 4 = 0
            """);
        Script.run("bond on both hands", """
            town wall wide 3 high 9 bond 1; sort weight 1 bears 99 many 60; = 2
            lay 1 1 0 = 1
            lay 1 1 0 = -5
            lay 1 0 0 = 1
            lay 1 1 0 = -5
            lay 1 2 0 = 1
            lay 1 1 0 = 2
            lay 1 0 0 = 2
            lay 1 0 0 = 3
            lay 1 0 0 = -5
            # the other SIDE's COLUMNS are not beside it
            lay 0 2 0 = 1
            lay 0 2 0 = -5
            side 1 4 = 0
            take 1 1 = 0
            side 1 4 = 1
            take 1 1 = 0
            side 1 4 = 1
            take 1 0 = 0
            take 1 0 = 0
            side 1 4 = 0
            lay 1 1 0 = 1
            lay 1 1 0 = 2
            lay 1 0 0 = 2
            lay 1 0 0 = 3
            take 1 2 = 0
            # both JOINTS at a COLUMN that went down
            side 1 4 = 1
            take 1 1 = 0
            take 1 1 = 0
            side 1 4 = 1
            """);
        Script.run("bearing", """
            town wall wide 1 high 12 bond 12; sort weight 4 bears 10 many 9; sort weight 3 bears 3 many 9; sort weight 1 bears 0 many 9; = 4
            lay 0 0 0 = 1
            lay 0 0 1 = 2
            # 10 less 3, but the second bears 3
            spare 0 0 = 3
            may 0 0 0 = 0
            may 0 0 1 = 1
            lay 0 0 2 = 3
            spare 0 0 = 0
            slack 0 = 0
            may 0 0 2 = 0
            stone 0 0 0 3 = 4
            stone 0 0 1 3 = 1
            take 0 0 = 2
            slack 0 = 3
            lay 0 0 1 = 3
            spare 0 0 = 0
            stone 0 0 0 3 = 6
            """);
        Script.run("the weight of all above it, together", """
            town wall wide 1 high 12 bond 12; sort weight 4 bears 10 many 9; = 2
            lay 0 0 0 = 1
            lay 0 0 0 = 2
            lay 0 0 0 = 3
            # the lowest bears 8 of 10, the second 4
            spare 0 0 = 2
            may 0 0 0 = 0
            slack 0 = 2
            """);
    }

    private static void filling() {
        Script.run("promise 14", """
            town wall wide 3 high 4 bond 2; sort weight 2 bears 5 many 0; sort weight 9 bears 8 many 0; = 3
            fill 0 0 = 9
            fill 1 0 = 9
            fill 0 1 = 3
            fill 0 2 = -2
            fill 0 -1 = -2
            fill 2 0 = -2
            side 0 0 = 0
            pile 0 = 0
            """);
        Script.run("promise 14", """
            town wall wide 8 high 12 bond 1; sort weight 1 bears 99 many 9; = 2
            fill 0 0 = 96
            lay 0 3 0 = 1
            fill 0 0 = 95
            fill 1 0 = 96
            pile 0 = 8
            """);
        Script.run("promise 14, bond", """
            town wall wide 3 high 9 bond 1; sort weight 1 bears 0 many 1; sort weight 1 bears 9 many 0; = 3
            lay 0 1 0 = 1
            fill 0 1 = 4
            fill 1 1 = 27
            """);
        // each time the lowest: with the highest first the first COLUMN would stay low
        Script.run("promise 14, the lowest", """
            town wall wide 2 high 3 bond 1; sort weight 1 bears 1 many 4; = 2
            fill 0 0 = 4
            lay 0 1 0 = 1
            fill 0 0 = 3
            """);
    }

    private static void leading() {
        Script.run("promises 10, 15, 45, 46", """
            town wall wide 2 high 4 bond 4; sort weight 1 bears 9 many 9; sort weight 7 bears 9 many 2; rule heavier; = 4
            count 9 = 1
            leads = 2
            suits 0 = -1
            suits 1 = -1
            lay 0 0 0 = 1
            leads = 0
            lay 0 1 0 = 1
            lay 1 0 1 = 1
            leads = 1
            side 0 3 = 2
            side 1 3 = 7
            suits 0 = 0
            suits 1 = 1
            rule 0 = 1
            leads = 0
            side 0 3 = 2
            side 1 3 = 1
            rule 2 = 0
            leads = 2
            side 0 3 = 1
            side 1 3 = 1
            count 9 = 2
            lay 1 0 0 = 2
            leads = 1
            side 1 3 = 2
            suits 1 = 1
            suits 0 = -1
            rule 3 = -2
            rule -1 = -2
            count 9 = 2
            rule 2 = 2
            suits 2 = -2
            suits -1 = -2
            lay 0 1 1 = 2
            lay 1 1 0 = 1
            # 3 against 3, 9 against 9, 2 against 2
            leads = 2
            suits 0 = -1
            lay 0 1 0 = 3
            take 0 0 = 0
            # 3 against 3, 9 against 9, 3 against 2
            suits 0 = 2
            suits 1 = -1
            leads = 0
            """);
    }

    private static void rising() {
        Script.run("promises 39, 40", """
            town wall wide 5 high 6 bond 2; sort weight 1 bears 99 many 60; = 2
            rise 0 2 6 = 18
            rise 0 0 6 = 12
            rise 0 1 5 = 12
            rise 0 2 2 = 2
            rise 0 2 0 = 0
            rise 0 2 7 = -1
            rise 0 2 12 = -1
            rise 0 2 13 = -2
            rise 0 2 -1 = -2
            rise 0 5 1 = -2
            rise 0 -1 1 = -2
            rise 2 0 1 = -2
            rise 0 5 7 = -2
            lay 0 2 0 = 1
            lay 0 2 0 = 2
            rise 0 2 6 = 16
            rise 0 2 2 = 0
            rise 0 2 1 = 0
            rise 0 2 3 = 3
            rise 1 2 6 = 18
            lay 0 3 0 = 1
            lay 0 3 0 = 2
            lay 0 3 0 = -5
            lay 0 4 0 = 1
            lay 0 3 0 = 3
            lay 0 3 0 = -5
            lay 0 2 0 = -5
            # heights 0 0 2 3 1
            course 0 1 = 3
            course 0 2 = 2
            course 0 3 = 1
            course 0 4 = 0
            course 0 12 = 0
            course 0 0 = -2
            course 0 13 = -2
            course 2 1 = -2
            course -1 1 = -2
            course 1 1 = 0
            # 2 of its own, 2 beside it
            rise 0 2 4 = 4
            # 3 of its own, 3 for the last, 2 and 2 on the other hand
            rise 0 3 6 = 10
            side 0 0 = 6
            """);
        // a COLUMN that is high enough asks nothing of those behind it
        Script.run("promise 40 behind a gap", """
            town wall wide 4 high 9 bond 1; sort weight 1 bears 99 many 60; = 2
            lay 0 0 0 = 1
            lay 0 1 0 = 1
            lay 0 2 0 = 1
            lay 0 3 0 = 1
            lay 0 1 0 = 2
            lay 0 2 0 = 2
            lay 0 3 0 = 2
            lay 0 2 0 = 3
            lay 0 0 0 = 2
            lay 0 1 0 = 3
            take 0 3 = 0
            take 0 3 = 0
            take 0 0 = 0
            take 0 0 = 0
            # heights 0 3 3 0
            rise 0 0 4 = 4
            rise 0 1 4 = 4
            rise 0 1 3 = 0
            rise 0 3 5 = 6
            """);
    }
}
