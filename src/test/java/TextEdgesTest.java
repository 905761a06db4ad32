/** Terms I and promises 1 to 5: each sentence that names a boundary case, by itself. */
public final class TextEdgesTest {
    /** 26 bytes. */
    private static final String WALL = "wall wide 1 high 1 bond 1;";
    private static final String SORT = "sort weight 1 bears 1 many 1;";
    private static final String VOTER = "voter east low light carries 1 far 0;";

    /** What all calls answer while there is no TOWN. */
    private static final String NO_TOWN = """
        may 0 0 0 = -2
        lay 0 0 0 = -2
        take 0 0 = -2
        stone 0 0 0 0 = -2
        side 0 0 = -2
        pile 0 = -2
        spare 0 0 = -2
        slack 0 = -2
        fill 0 0 = -2
        leads = -2
        would 0 0 = -2
        vote 0 = -2
        election 0 = -2
        result 0 = -2
        won 0 = -2
        votes 0 0 = -2
        still 0 0 = -2
        lost = -1
        read 0 = -2
        hands 0 = -2
        ghosts 0 = -2
        pivot 0 = -2
        fetch 0 0 = -2
        margin 0 0 = -1000000
        cheap 0 = -2
        turn 0 0 = -2
        bribe 0 = -2
        tear 0 = -2
        gale 0 = -2
        falls 0 = -2
        power 0 = -2
        span 0 0 0 = -2
        oldest 0 = -2
        course 0 1 = -2
        rise 0 0 0 = -2
        mean 0 = -2
        storm 0 = -2
        run 0 1 = -2
        runs 0 1 1 0 = -2
        rule 0 = -2
        suits 0 = -2
        judge 0 = -2
        then 0 = -2
        count 0 = 0
        count 1 = 0
        count 2 = 0
        count 3 = 0
        count 4 = 0
        count 5 = 0
        count 6 = 2
        count 7 = 0
        count 9 = 0
        count 10 = 0
        count 11 = 0
        """;
    private static final String LIVELY = "town wall wide 2 high 3 bond 2;"
            + " sort weight 1 bears 9 many 9; voter east low light carries 1 far 0;"
            + " rule higher; storm 40; mason 3; = 6\n";

    private TextEdgesTest() {
    }

    public static void main(String[] args) {
        noTown();
        tapeFull();
        tapeShortened();
        shortenedInAToken();
        townInPlaceOfAnother();
        faultLeavesAll();
        faultOfTheLatest();
        numbersInBounds();
        boundsTakeEffect();
        toldWithout();
        toldByAnother();
        firstLine();
        onceEach();
        sixthAndEleventh();
        tokens();
        places();
        Script.finish();
    }

    private static void noTown() {
        Script.run("promise 1: No TOWN", NO_TOWN + """
            count 8 = 0
            count 12 = 0
            """);
        Script.run("promise 1: No TOWN behind a FAULT", "town x = -4\n" + NO_TOWN);
        Script.run("promise 4: a TOWN of no LINES", "town ; = -4\nend 0 = 0\ntown = 0\n" + NO_TOWN);
        Script.run("promise 4: in place of another, of no LINES", LIVELY + """
            election 1 = 0
            rule 1 = 2
            end 0 = 0
            town = 0
            """ + NO_TOWN);
        Script.run("promise 4: of blanks", LIVELY + """
            tape ~  ~
            town = 0
            """ + NO_TOWN);
    }

    private static void tapeFull() {
        WallVotes x = new WallVotes();
        byte[] text = (WALL + " ".repeat(1600 - WALL.length())).getBytes();
        Script.write(x, text);
        Script.go(x, "promise 2: NONE, and none come, if it would have more than 1,600", """
            count 8 = 1600
            feed 1 2 3 4 5 = -1
            count 8 = 1600
            # none came into it either
            town = 1
            # and it is empty then
            feed 538976288 538976288 538976288 538976288 538976288 = 20
            """);
        Script.write(x, text);
        Script.go(x, "promise 2: as many as 1,600", """
            end 1581 = 1581
            feed 538976288 538976288 538976288 538976288 538976288 = -1
            count 8 = 1581
            end 1580 = 1580
            feed 538976288 538976288 538976288 538976288 538976288 = 1600
            town = 1
            """);
        for (int at = 0; at < 20; at++) {
            byte[] bytes = new byte[20];
            java.util.Arrays.fill(bytes, (byte) 32);
            bytes[at] = ';';
            WallVotes y = new WallVotes();
            Script.write(y, bytes);
            Script.due("promise 2: four of each number, the highest first", "town()", y.town(), -4);
            Script.due("promise 2: the byte at " + at, "fault(1)", y.fault(1), at);
        }
        // the same by hand: 0x3b202020 has ; first, 0x2020203b last
        Script.run("promise 2: the highest first", """
            feed 538976288 991961120 538976288 538976288 538976288 = 20
            town = -4
            fault 1 = 4
            end 0 = 0
            feed 538976288 538976288 538976288 538976288 538976315 = 20
            town = -4
            fault 1 = 19
            # -1 is four bytes of 255, which are no TOKEN and no blank
            end 0 = 0
            feed 538976288 538976288 -1 538976288 538976288 = 20
            town = -4
            fault 0 = 1
            fault 1 = 8
            """);
    }

    private static void tapeShortened() {
        Script.run("promise 3: NONE, if it has not so many, or n is below 0", """
            end 1 = -1
            end -1 = -1
            end 0 = 0
            end 2147483647 = -1
            end -2147483648 = -1
            tape wall wide 1 high 1 bond 1;sort
            end 31 = -1
            end -1 = -1
            # nothing happens
            count 8 = 30
            end 30 = 30
            end 26 = 26
            # those behind are gone
            end 27 = -1
            end 30 = -1
            count 8 = 26
            town = 1
            # the TAPE is empty then
            count 8 = 0
            end 1 = -1
            end 0 = 0
            """);
        Script.run("promise 3: first n bytes alone, and what comes behind them", """
            tape wall wide 1 high 1 bond 12;
            end 25 = 25
            feed 991961120 538976288 538976288 538976288 538976288 = 45
            end 26 = 26
            town = 1
            count 2 = 1
            """);
    }

    /** What was on the TAPE once still lies behind its end in some way, and must not be seen. */
    private static void shortenedInAToken() {
        Script.run("promise 3: its first n bytes alone", """
            tape wall wide 1 high 1 bond 12;
            end 25 = 25
            town = -4
            fault 0 = 1
            fault 1 = 25
            tape wall wide 1 high 1 bond 1;
            end 10 = 10
            town = -4
            fault 0 = 1
            fault 1 = 10
            tape wall wide 1 high 1 bond 1;
            end 3 = 3
            town = -4
            fault 0 = 1
            fault 1 = 0
            tape wall wide 1 high 1 bond 1;
            end 25 = 25
            town = -4
            fault 1 = 25
            """);
    }

    private static void townInPlaceOfAnother() {
        Script.run("promise 4: the WALL has nothing, YEAR 0, nobody has WON", LIVELY + """
            vote 0 = 1
            lay 1 0 0 = 1
            lay 1 0 0 = 2
            election 1 = 1
            rule 1 = 2
            take 0 0 = 0
            lost = 1
            """ + LIVELY + """
            count 5 = 0
            count 6 = 2
            count 9 = 2
            count 8 = 0
            side 0 0 = 0
            side 1 0 = 0
            side 1 1 = 0
            side 1 2 = 0
            pile 0 = 9
            lost = 0
            won 0 = -2
            votes 0 0 = -2
            hands 0 = 0
            oldest 0 = -1
            slack 1 = -1
            leads = 2
            election 0 = 2
            won 0 = 2
            votes 0 0 = 0
            votes 0 1 = 0
            """);
    }

    private static void faultLeavesAll() {
        WallVotes x = Script.run("promise 4: -4", LIVELY + """
            vote 0 = 1
            lay 1 0 0 = 1
            lay 1 0 0 = 2
            keep 1 = 0
            election 1 = 1
            rule 1 = 2
            take 0 0 = 0
            row 0 1 2 = 0
            """);
        String before = Picture.ofTown(x);
        String[] texts = {"x", WALL + SORT + "sort weight 10", WALL + SORT.repeat(6),
            WALL + "rule more; rule more;", "wall wide 8 high 12 bond 12; voter", WALL + VOTER + "storm"};
        for (String text : texts) {
            Script.write(x, text);
            Script.due("promise 4: a FAULT (all stays)", text, x.town(), -4);
            Script.due("promise 4: a FAULT (all stays)", "count(8)", x.count(8), text.length());
            same("promise 4: a FAULT (all stays)", text, before, x);
        }
        // the TAPE that stayed is what the last one was
        Script.go(x, "promise 4: a FAULT (all stays)", """
            end 63 = 63
            town = 2
            count 4 = 1
            back 1 = 0
            pile 0 = 6
            """);
    }

    private static void same(String sentence, String call, String before, WallVotes x) {
        Script.due(sentence, call + ", all is as it was", Picture.ofTown(x).equals(before) ? 1 : 0, 1);
    }

    private static void faultOfTheLatest() {
        String others = """
            fault 2 = -1
            fault -1 = -1
            fault 2147483647 = -1
            fault -2147483648 = -1
            """;
        Script.run("promise 5: ahead of any", others + "fault 0 = 0\nfault 1 = -1");
        Script.run("promise 5: its FAULT and its place", "town  x = -4\n" + others + """
            fault 0 = 1
            fault 1 = 1
            # it is that of the latest town(), whatever else was called
            end 0 = 0
            feed 0 0 0 0 0 = 20
            keep 0 = 0
            back 0 = 0
            leads = -2
            fault 0 = 1
            fault 1 = 1
            town wall wide 9 = -4
            fault 0 = 2
            fault 1 = 10
            """ + LIVELY + others + """
            fault 0 = 0
            fault 1 = -1
            town storm 5; = -4
            fault 0 = 1
            fault 1 = 0
            end 0 = 0
            town = 0
            fault 0 = 0
            fault 1 = -1
            """);
    }

    private static void numbersInBounds() {
        Texts.bound("wall wide @ high 4 bond 2;", 1, 8);
        Texts.bound("wall wide 3 high @ bond 2;", 1, 12);
        Texts.bound("wall wide 3 high 4 bond @;", 1, 12);
        Texts.bound(WALL + "sort weight @ bears 1 many 1;", 1, 9);
        Texts.bound(WALL + "sort weight 1 bears @ many 1;", 0, 99);
        Texts.bound(WALL + "sort weight 1 bears 1 many @;", 0, 60);
        // C is a COLUMN 0 .. wide less 1
        Texts.bound(WALL + "voter east near @ light carries 1 far 0;", 0, 0);
        Texts.bound("wall wide 3 high 1 bond 1;voter east near @ light carries 1 far 0;", 0, 2);
        Texts.bound("wall wide 8 high 1 bond 1;voter east near @ light carries 1 far 0;", 0, 7);
        Texts.bound(WALL + "voter east low light carries @ far 0;", 1, 9);
        Texts.bound(WALL + "voter east low light carries 1 far @;", 0, 99);
        Texts.bound(WALL + "voter east low light carries 1 far 0 from @;", 0, 99);
        Texts.bound(WALL + "voter east low light carries 1 far 0 to @;", 0, 99);
        Texts.bound(WALL + "storm @;", 0, 100);
        Texts.bound(WALL + "mason @;", 0, 99);
        // to not below from
        Texts.bound(WALL + "voter east low light carries 1 far 0 from 40 to @;", 40, 99);
        Texts.bound(WALL + "voter east low light carries 1 far 0 from 0 to @;", 0, 99);
        Texts.bound(WALL + "voter east low light carries 1 far 0 from 99 to @;", 99, 99);
        Texts.bound(WALL + "voter east low light carries 1 far 0 from 1 to @;", 1, 99);
    }

    private static void boundsTakeEffect() {
        Script.run("the least", """
            town wall wide 1 high 1 bond 1; sort weight 1 bears 0 many 0; voter east near 0 light carries 1 far 0 from 0 to 0; storm 0; mason 0; rule more; = 6
            count 0 = 1
            count 1 = 1
            count 2 = 1
            count 10 = 0
            count 11 = 1
            pile 0 = 0
            would 0 1 = -1
            """);
        Script.run("the greatest", """
            town wall wide 8 high 12 bond 12; sort weight 9 bears 99 many 60; voter east near 7 light carries 9 far 99 from 99 to 99; storm 100; mason 99; rule higher; = 6
            count 0 = 8
            count 1 = 12
            count 2 = 12
            count 10 = 100
            count 11 = 0
            count 9 = 2
            pile 0 = 60
            would 0 1 = 0
            would 0 2 = 7
            lay 1 7 0 = 1
            # two of 9 at 99 each
            bribe 0 = 1782
            # 99 bears eleven of 9
            lay 0 7 0 = 1
            lay 0 7 0 = 2
            lay 0 7 0 = 3
            lay 0 7 0 = 4
            lay 0 7 0 = 5
            lay 0 7 0 = 6
            lay 0 7 0 = 7
            lay 0 7 0 = 8
            lay 0 7 0 = 9
            lay 0 7 0 = 10
            lay 0 7 0 = 11
            slack 0 = 9
            lay 0 7 0 = 12
            slack 0 = 0
            falls 2 = 1000000000000
            """);
    }

    private static void toldWithout() {
        WallVotes x = Script.run("from, to, rule, storm, mason: (0, 99), (more, 0, 0) without", """
            town wall wide 1 high 1 bond 1; sort weight 1 bears 0 many 2; voter east low light carries 1 far 0; voter east low light carries 1 far 0 from 98; voter east low light carries 1 far 0 to 98; = 5
            count 9 = 0
            count 10 = 0
            count 11 = 5
            lay 1 0 0 = 1
            falls 0 = 1000000000000
            lay 0 0 0 = 1
            take 1 0 = 0
            bribe 1 = -3
            take 0 0 = 0
            bribe 1 = 0
            """);
        for (int year = 0; year < 98; year++) {
            Script.due("the YEARS ahead", "election(0)", x.election(0), 2);
        }
        Script.go(x, "from, to: (0, 99 without)", """
            count 5 = 98
            count 11 = 7
            election 0 = 2
            count 11 = 3
            election 0 = 2
            count 5 = 100
            count 11 = 0
            """);
    }

    private static void toldByAnother() {
        Script.run("rule, storm, mason: (more, 0, 0 without), whatever the TOWN ahead of it told", """
            town wall wide 1 high 1 bond 1; sort weight 1 bears 0 many 2; rule higher; storm 9; mason 9; voter west low light carries 1 far 0 from 3 to 4; = 6
            bribe 0 = 9
            town wall wide 1 high 1 bond 1; sort weight 1 bears 0 many 2; voter west low light carries 1 far 0; = 3
            count 9 = 0
            count 10 = 0
            count 11 = 1
            bribe 0 = 0
            turn 0 0 = 1
            # nor does a TOWN with a FAULT tell anything to the next
            town wall wide 1 high 1 bond 1; sort weight 1 bears 0 many 2; storm 9; mason 9; rule higher; x = -4
            town wall wide 1 high 1 bond 1; sort weight 1 bears 0 many 2; = 2
            count 9 = 0
            count 10 = 0
            bribe 0 = 0
            town wall wide 1 high 1 bond 1; storm 1; mason 1; rule more; = 4
            """);
    }

    private static void firstLine() {
        Texts.sound(WALL, 1);
        // wall is the first LINE ..
        Texts.fault("sort weight 1 bears 1 many 1;" + WALL, 1, 0);
        Texts.fault(VOTER, 1, 0);
        Texts.fault("rule more;", 1, 0);
        Texts.fault("storm 1;", 1, 0);
        Texts.fault("mason 1;", 1, 0);
        Texts.fault("high 1;", 1, 0);
        Texts.fault("1;", 1, 0);
        Texts.fault(";", 1, 0);
        // .. and no other
        Texts.fault(WALL + WALL, 1, 26);
        Texts.fault(WALL + SORT + "\n wall", 1, 57);
        // a LINE ends by ;
        Texts.fault("wall wide 1 high 1 bond 1", 1, 25);
        Texts.fault("wall wide 1 high 1 bond 1 sort", 1, 26);
        Texts.fault(WALL + "storm 1", 1, 33);
        Texts.fault(WALL + ";", 1, 26);
    }

    private static void onceEach() {
        String three = WALL + "rule more;storm 0;mason 0;";
        Texts.sound(three, 4);
        // told already (at it), even with what it was without
        Texts.fault(three + "rule more;", 2, 52);
        Texts.fault(three + " storm 0;", 2, 53);
        Texts.fault(three + "\nmason 0;", 2, 53);
        // whatever comes behind the word is behind the FAULT
        Texts.fault(three + "rule", 2, 52);
        Texts.fault(three + "storm 101", 2, 52);
        Texts.fault(three + "mason x", 2, 52);
        // one of them is not another one
        Texts.sound(WALL + "rule higher;mason 1;", 3);
        Texts.sound(WALL + "mason 1;storm 1;", 3);
    }

    private static void sixthAndEleventh() {
        int behindSorts = 26 + 5 * SORT.length();
        Texts.sound(WALL + SORT.repeat(5), 6);
        Texts.fault(WALL + SORT.repeat(6), 3, behindSorts);
        Texts.fault(WALL + SORT.repeat(5) + "sort", 3, behindSorts);
        Texts.fault(WALL + SORT.repeat(5) + VOTER + " sort", 3, behindSorts + VOTER.length() + 1);
        int behindVoters = 26 + 10 * VOTER.length();
        Texts.sound(WALL + VOTER.repeat(10), 11);
        Texts.fault(WALL + VOTER.repeat(11), 3, behindVoters);
        Texts.fault(WALL + VOTER.repeat(10) + "voter 5", 3, behindVoters);
        Texts.sound(WALL + VOTER.repeat(10) + SORT.repeat(5), 16);
        Script.run("SORTS 0 .. 4, voters 0 .. 9 are numbered as they stand", """
            town wall wide 1 high 1 bond 1; sort weight 1 bears 0 many 5; voter east low light carries 1 far 0; sort weight 1 bears 0 many 6; rule more; voter west low light carries 1 far 0; sort weight 1 bears 0 many 7; = 7
            pile 0 = 5
            pile 1 = 6
            pile 2 = 7
            pile 3 = -2
            would 0 0 = 0
            would 1 0 = 1
            would 2 0 = -2
            """);
        Script.run("SORT 4, voter 9", "town " + WALL + "sort weight 1 bears 0 many 0;".repeat(4)
                + "sort weight 1 bears 0 many 9;" + VOTER.repeat(9) + VOTER.replace("east", "west") + """
             = 16
            count 3 = 5
            count 4 = 10
            count 11 = 1023
            pile 4 = 9
            pile 5 = -2
            would 8 0 = 0
            would 9 0 = 1
            would 9 1 = 4
            would 10 0 = -2
            """);
    }

    private static void tokens() {
        // blanks (32, 10) aside
        Texts.sound("\n\n wall\nwide\n1 high 1\n\nbond 1 ;\n", 1);
        for (int b = 0; b < 256; b++) {
            boolean blank = b == 32 || b == 10;
            String text = "wall wide 1 high 1 bond 1" + (char) b + ";";
            if (blank) {
                Texts.sound(text, 1);
            } else if (b == ';') {
                Texts.fault(text, 1, 26);
            } else if (b >= '0' && b <= '9') {
                bondOfTwoDigits(text, b - '0');
            } else {
                Texts.fault(text, 1, 25);
            }
        }
        // words (a .. z): a letter more makes another word, any other byte ends it
        for (int b = 0; b < 256; b++) {
            String text = "wall" + (char) b + "wide 1 high 1 bond 1;";
            if (b == 32 || b == 10) {
                Texts.sound(text, 1);
            } else {
                Texts.fault(text, 1, b >= 'a' && b <= 'z' ? 0 : 4);
            }
        }
        // the longest
        Texts.sound("wall wide1high1bond1;", 1);
        Texts.fault("wallwide 1 high 1 bond 1;", 1, 0);
        Texts.fault("wall wide 1 high 1 bond 1 2;", 1, 26);
        Texts.fault("wal l wide 1 high 1 bond 1;", 1, 0);
        Texts.fault("wall wide 1 high 1 bond 1 0;", 1, 26);
        Texts.sound("wall wide 1 high 1 bond 10;", 1);
        Texts.fault("wall wide 1high1bond1x;", 1, 21);
        Texts.sound("wall wide 01 high 00000000000000000000000000000000000001 bond 012;", 1);
        // words are of a .. z alone, and whole
        Texts.fault("WALL wide 1 high 1 bond 1;", 1, 0);
        Texts.fault("wall wid 1 high 1 bond 1;", 1, 5);
        Texts.fault("wall wides 1 high 1 bond 1;", 1, 5);
        Texts.fault("wall wide1 highe 1 bond 1;", 1, 11);
    }

    private static void bondOfTwoDigits(String text, int digit) {
        if (digit <= 2) {
            Texts.sound(text, 1);
        } else {
            Texts.fault(text, 2, 24);
        }
    }

    private static void places() {
        // the first by its place
        Texts.fault("wall wide 9 high 13 bond 13", 2, 10);
        Texts.fault("wall wide 1 high 13 bond x", 2, 17);
        Texts.fault("wall wide 1 high x bond 13", 1, 17);
        Texts.fault(WALL + "storm 101;storm", 2, 32);
        // a TOKEN's first byte; the end's
        Texts.fault(WALL + "   storms 3;", 1, 29);
        Texts.fault(WALL + "storm    0101;", 2, 35);
        Texts.fault("wall", 1, 4);
        Texts.fault("wall  \n", 1, 7);
        Texts.fault(WALL + "rule", 1, 30);
        Texts.fault(WALL + "rule more \n", 1, 37);
        Texts.fault(WALL + "voter east low light carries 1 far 0 to", 1, 65);
        // of one place the least: it can't stand there, and it is told already, or one too many
        Texts.fault(WALL + "rule more rule more;", 1, 36);
        Texts.fault(WALL + "storm 1 storm 1;", 1, 34);
        Texts.fault(WALL + "mason 1 mason 1;", 1, 34);
        Texts.fault(WALL + "rule more;rule rule", 2, 36);
        Texts.fault(WALL + SORT.repeat(4) + "sort weight 1 bears 1 many 1 sort", 1, 26 + 4 * 29 + 29);
        Texts.fault(WALL + VOTER.repeat(9) + "voter east low light carries 1 far 0 voter", 1,
                26 + 9 * 37 + 37);
        // a word that is one, but not there
        Texts.fault(WALL + "rule low;", 1, 31);
        Texts.fault(WALL + "rule east;", 1, 31);
        Texts.fault(WALL + "voter low low light carries 1 far 0;", 1, 32);
        Texts.fault(WALL + "voter east east light carries 1 far 0;", 1, 37);
        Texts.fault(WALL + "voter east low low carries 1 far 0;", 1, 41);
        // a number that can't stand there, and would be out of all bounds
        Texts.fault("wall 999 wide 1 high 1 bond 1;", 1, 5);
        Texts.fault(WALL + "999", 1, 26);
        Texts.fault(WALL + "voter east low 100", 1, 41);
    }
}
