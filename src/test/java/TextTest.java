/** Promises 1 to 5: a new object, the TAPE, the TOWN and its FAULTS. */
public final class TextTest {
    private static final String WALL = "wall wide 3 high 4 bond 2;";

    private TextTest() {
    }

    public static void main(String[] args) {
        newObject();
        tape();
        towns();
        soundTexts();
        faults();
        Script.finish();
    }

    private static void newObject() {
        Script.run("promise 1", """
            count 0 = 0
            count 1 = 0
            count 2 = 0
            count 3 = 0
            count 4 = 0
            count 5 = 0
            count 6 = 2
            count 7 = 0
            count 8 = 0
            count 9 = 0
            count 10 = 0
            count 11 = 0
            count 12 = 0
            fault 0 = 0
            fault 1 = -1
            leads = -2
            lost = -1
            side 0 0 = -2
            election 0 = -2
            margin 0 0 = -1000000
            back 0 = -6
            judge 0 = -2
            write 0 0 0 = -6
            """);
    }

    private static void tape() {
        WallVotes x = new WallVotes();
        for (int i = 1; i <= 80; i++) {
            Script.due("promise 2", "feed no. " + i, x.feed(i, -1, 0, 1, 2), 20 * i);
        }
        Script.go(x, "promises 2, 3", """
            feed 1 2 3 4 5 = -1
            count 8 = 1600
            end 1601 = -1
            end -1 = -1
            count 8 = 1600
            end 1581 = 1581
            feed 1 2 3 4 5 = -1
            count 8 = 1581
            end 1580 = 1580
            feed 1 2 3 4 5 = 1600
            end 1600 = 1600
            end 0 = 0
            end 1 = -1
            count 8 = 0
            """);
        // "wall wide 1 high 1 b" and "ond 1;" by the bytes' numbers, the highest first
        Script.run("promise 2", """
            feed 2002873452 544696676 1696608544 1751738216 540090466 = 20
            feed 1869505568 825950240 0 0 0 = 40
            end 26 = 26
            town = 1
            count 0 = 1
            count 8 = 0
            """);
        // what lay behind the end is no part of the TAPE any more
        Script.run("promise 3", """
            tape wall wide 12
            end 11 = 11
            town = -4
            fault 0 = 1
            fault 1 = 11
            tape wall     wide
            end 5 = 5
            town = -4
            fault 1 = 5
            tape wall wide 3 high 4 bond 2;
            end 25 = 25
            town = -4
            fault 1 = 25
            """);
        Script.run("promise 3", """
            tape wall wide 1 high 2 bond 3;
            end 10 = 10
            town = -4
            fault 0 = 1
            fault 1 = 10
            count 8 = 10
            """);
    }

    private static void towns() {
        Script.run("promise 4", """
            town wall wide 3 high 4 bond 2; sort weight 1 bears 9 many 5; voter west low light carries 1 far 0; rule higher; storm 7; mason 9; = 6
            count 8 = 0
            count 7 = 6
            count 9 = 2
            count 10 = 7
            count 11 = 1
            lay 0 1 0 = 1
            lay 1 1 0 = 1
            lay 1 1 0 = 2
            election 1 = 1
            rule 0 = 2
            # a FAULT: all stays
            town wall wide 5 high 4 bond 2; sort = -4
            fault 0 = 1
            fault 1 = 31
            count 8 = 31
            count 0 = 3
            count 5 = 1
            count 6 = 1
            count 9 = 0
            side 1 0 = 3
            pile 0 = 1
            won 0 = 1
            lost = 0
            # the TAPE that stayed goes on
            feed 0 0 0 0 0 = 51
            end 31 = 31
            town = -4
            end 27 = 27
            # another TOWN in place of it: nothing of the old one is left
            town = 1
            fault 0 = 0
            fault 1 = -1
            count 0 = 5
            count 3 = 0
            count 4 = 0
            count 5 = 0
            count 6 = 2
            count 7 = 1
            count 9 = 0
            count 10 = 0
            side 1 0 = 0
            won 0 = -2
            lost = 0
            pile 0 = -2
            hands 0 = -2
            # the same TOWN once more is a new one
            town wall wide 3 high 4 bond 2; sort weight 1 bears 9 many 5; voter east low light carries 1 far 0; = 3
            election 1 = 0
            votes 0 0 = 1
            take 0 0 = 0
            lost = 1
            town wall wide 3 high 4 bond 2; sort weight 1 bears 9 many 5; voter east low light carries 1 far 0; = 3
            lost = 0
            count 5 = 0
            count 6 = 2
            pile 0 = 5
            election 0 = 2
            votes 0 0 = 0
            # a TAPE without a LINE is a TOWN of none
            end 0 = 0
            town = 0
            count 0 = 0
            count 7 = 0
            count 5 = 0
            count 6 = 2
            leads = -2
            lost = -1
            election 0 = -2
            won 0 = -2
            """);
        Script.run("promise 5", """
            fault 2 = -1
            fault -1 = -1
            town x = -4
            fault 0 = 1
            fault 1 = 0
            fault 2 = -1
            fault -1 = -1
            town wall wide 3 high 4 bond 2; = 1
            fault 0 = 0
            fault 1 = -1
            """);
    }

    private static void soundTexts() {
        Texts.sound("", 0);
        Texts.sound(" \n  ", 0);
        Texts.sound(WALL, 1);
        Texts.sound("\n wall\nwide3high4bond2;\n", 1);
        Texts.sound("wall wide 0000000000003 high 004 bond 02 ; ", 1);
        Texts.sound(WALL + "voter east low light carries 1 far 0;", 2);
        Texts.sound(WALL + "voter west high heavy carries 1 far 0 from 5;", 2);
        Texts.sound(WALL + "voter winner near 0 heavy carries 1 far 0 to 5;", 2);
        Texts.sound(WALL + "voter loser near 2 heavy carries 1 far 0 from 5 to 5;", 2);
        Texts.sound(WALL + "rule more;storm 0;mason 0;", 4);
        Texts.sound(WALL + "mason 99;storm 100;rule heavier;sort weight 1 bears 0 many 0;", 5);
        Texts.sound(WALL + "rule higher;", 2);
        Texts.sound(WALL + "sort weight 1 bears 1 many 1;".repeat(5), 6);
        Texts.sound(WALL + "voter east low light carries 1 far 0;".repeat(10), 11);
        // a TAPE that is full
        Texts.sound(WALL + " ".repeat(1600 - WALL.length()), 1);
        Texts.sound(" ".repeat(1600), 0);
        Texts.sound(" ".repeat(1600 - WALL.length()) + WALL, 1);
        Texts.sound("wall wide 3 high 4 bond " + "0".repeat(1574) + "2;", 1);
    }

    /** A FAULT behind a WALL, at a place counted from its end. */
    private static void behind(String text, int kind, int place) {
        Texts.fault(WALL + text, kind, WALL.length() + place);
    }

    private static void faults() {
        Texts.fault(";", 1, 0);
        Texts.fault(" ;", 1, 1);
        Texts.fault("wide 3", 1, 0);
        Texts.fault("sort weight 1 bears 1 many 1;", 1, 0);
        Texts.fault("rule more;" + WALL, 1, 0);
        Texts.fault("walls wide 3 high 4 bond 2;", 1, 0);
        Texts.fault("wallwide 3 high 4 bond 2;", 1, 0);
        Texts.fault("wallz wide 3 high 4 bond 2;", 1, 0);
        Texts.fault("wall wide 3z high 4 bond 2;", 1, 11);
        Texts.fault("walla wide 3 high 4 bond 2;", 1, 0);
        Texts.fault("Wall wide 3 high 4 bond 2;", 1, 0);
        Texts.fault("wall\twide 3 high 4 bond 2;", 1, 4);
        Texts.fault("wall wide 3 high 4 bond 2", 1, 25);
        Texts.fault("wall wide 3 high 4 bond 2 \n ", 1, 28);
        Texts.fault("wall wide 3 high 4 bond", 1, 23);
        Texts.fault("wall wide 3 high 4;", 1, 18);
        Texts.fault("wall high 4 wide 3 bond 2;", 1, 5);
        Texts.fault("wall wide three high 4 bond 2;", 1, 10);
        Texts.fault("wall wide -3 high 4 bond 2;", 1, 10);
        Texts.fault("wall wide 3 high 4 bond 2 2;", 1, 26);
        Texts.fault("wall wide 3 high 4 bond 2;;", 1, 26);
        Texts.fault("wall wide 3 high 4 bond 2\u0000;", 1, 25);
        Texts.fault("wall wide 3 high 4 bond 2\u00e9;", 1, 25);
        Texts.fault("wall wide 3 high 4 bond 2\r\n;", 1, 25);
        behind(" wall wide 3 high 4 bond 2;", 1, 1);
        behind(" 7", 1, 1);
        behind("masons 3;", 1, 0);
        behind("sort bears 1 weight 1 many 1;", 1, 5);
        behind("sort weight 1 bears 1;", 1, 21);
        behind("voter north low light carries 1 far 0;", 1, 6);
        behind("voter east middle light carries 1 far 0;", 1, 11);
        behind("voter east near light carries 1 far 0;", 1, 16);
        behind("voter east low carries 1 far 0;", 1, 15);
        behind("voter east low light far 0 carries 1;", 1, 21);
        behind("voter east low light carries 1;", 1, 30);
        behind("voter east low light carries 1 far 0 to 5 from 3;", 1, 42);
        behind("voter east low light carries 1 far 0 from;", 1, 41);
        behind("voter east low light carries 1 far 0 from 1 from 2;", 1, 44);
        behind("rule most;", 1, 5);
        behind("rule;", 1, 4);
        behind("storm more;", 1, 6);
        behind("mason;", 1, 5);
        behind("rule more; rule more;", 2, 11);
        behind("rule more; rule most", 2, 11);
        behind("storm 0;\nstorm 200;", 2, 9);
        behind("mason 1;mason 1;", 2, 8);
        behind("voter east low light carries 1 far 0 from 5 to 4;", 2, 47);
        String sort = "sort weight 1 bears 1 many 1;";
        behind(sort.repeat(5) + " " + sort, 3, 5 * sort.length() + 1);
        behind(sort.repeat(5) + "sort x", 3, 5 * sort.length());
        String voter = "voter east low light carries 1 far 0;";
        behind(voter.repeat(10) + voter, 3, 10 * voter.length());
        // of several the first by its place
        behind("storm 101; x", 2, 6);
        behind("x storm 101;", 1, 0);
        behind("sort weight 99999999999999999999 bears x", 2, 12);
        behind("sort weight 4294967297 bears 1 many 1;", 2, 12);
        // a TAPE that is full
        Texts.fault("wall wide " + "3".repeat(1590), 2, 10);
        Texts.fault("wall " + "w".repeat(1595), 1, 5);
        Texts.fault("wall" + " ".repeat(1596), 1, 1600);
        Texts.fault(";".repeat(1600), 1, 0);
    }
}
