/** The edges of parts 2 and 4 of the Terms and of promises 6, 9 to 16, 44 and 45. Each check bears the words it holds to. */
public final class EdgeDeedTest {
    private EdgeDeedTest() {
    }

    public static void main(String[] args) {
        restAsHeComesThere();
        homeAsAllIsNow();
        overWhenAllOfASideAreHome();
        oneDeedADay();
        goesOneStep();
        staysWithARest();
        pressesToZeroAtMost();
        pressesWithARestOfHisOwn();
        pressesTheOtherSideButAllied();
        eveningByNumbers();
        eveningOfThoseWhoMay();
        lastDayIs9999();
        fortyActs();
        eachKindIsOneAct();
        undoneWithTheLog();
        undoneWithTheLongestLog();
        sixtyLines();
        linesOfTheLog();
        marchOfDays();
        marchDrawsForThoseWhoMay();
        marchOfTheIll();
        marchPressesTheLowest();
        marchTillItIsOver();
        marchFromWhatWasDone();
        marchBySeeds();
        marchToTheLastDay();
        imageOfTheDay();
        imageKeepsTheLog();
        backLeavesTheRest();
        noImageOfThisWar();
        thingsOfAMan();
        Check.finish("EdgeDeedTest");
    }

    /** A LAW by which nobody is HOME holds then. */
    private static LastHome endless(String war) {
        LastHome x = Check.war(war);
        Check.law(x, "y:0");
        x.law(0);
        return x;
    }

    private static void men(String what, LastHome x, int field, int... due) {
        for (int m = 0; m < due.length; m++) {
            Check.same(what + " of MAN " + m, x.man(m, field), due[m]);
        }
    }

    private static void steps(String what, LastHome x, int... due) {
        men(what + ": STEPS", x, 1, due);
    }

    private static void rests(String what, LastHome x, int... due) {
        men(what + ": REST", x, 6, due);
    }

    /** REST: the DAYS of the ORCHARD at his STEP (none: 0) as he comes there (at first, too); REST of another STEP there. */
    private static void restAsHeComesThere() {
        LastHome x = Check.war("md3;md4;md1;ms1d20;ms1d0;ms1d2;o;ok1x1;ok20x9");
        rests("at first", x, 2, 0, 1, 9, 0, 0);
        Check.same("GOES from the ORCHARD", x.go(0), 2);
        Check.same("GOES to the ORCHARD", x.go(1), 3);
        Check.same("STAYS", x.stay(3), 8);
        rests("by deeds", x, 0, 2, 1, 8, 0, 0);
        x.evening();
        steps("by EVENING", x, 2, 3, 0, 20, 0, 1);
        rests("by EVENING", x, 0, 2, 0, 8, 0, 1);
        x.evening();
        steps("one more", x, 1, 2, 0, 19, 0, 0);
        rests("one more", x, 1, 0, 0, 0, 0, 0);
        LastHome y = Check.war("md5v3;md9;ms1d5;ms1d9;ok5x2;ok4x3;ok6x7");
        Check.same("PRESSED over an ORCHARD", y.press(0, 3), 6);
        rests("of that STEP alone", y, 1, 0, 2, 7);
        Check.same("PRESSED off an ORCHARD", y.press(2, 1), 8);
        rests("none there", y, 1, 0, 1, 7);
        x = Check.war("md5v1;ms1d5;ok5x2;ok4x3");
        x.stay(1);
        Check.same("from ORCHARD to ORCHARD", x.press(0, 1), 4);
        rests("of the other ORCHARD", x, 1, 3);
        x.evening();
        rests("and they stay spent", x, 1, 3);
    }

    /** HOME: by the LAW that holds (none at first: no STEPS to go), as all is now. */
    private static void homeAsAllIsNow() {
        LastHome x = Check.war("md1;md0;ms1d2;ms1d3");
        Check.same("no STEPS to go", x.count(8), 2);
        x.go(0);
        Check.same("gone HOME", x.count(8), 3);
        LastHome y = Check.war("md5;ms1d5;ms1d9;md9");
        Check.law(y, "y:y=1&d=4?1");
        Check.law(y, "y:d<4?1");
        y.law(0);
        Check.same("not on DAY 0", y.count(8), 0);
        y.go(0);
        y.go(1);
        Check.same("not at STEP 4 on DAY 0", y.count(8), 0);
        y.evening();
        Check.same("at STEP 4 on DAY 1", y.count(8), 3);
        Check.same("who is HOME does nothing", y.go(0), Check.NONE);
        y.evening();
        Check.same("no longer on DAY 2", y.count(8), 0);
        steps("they were HOME at the EVENING", y, 4, 4, 7, 7);
        Check.same("not HOME at 4", y.man(0, 8), 0);
        y.law(1);
        Check.same("not by the other LAW", y.man(0, 8), 0);
        y.go(0);
        Check.same("below 4", y.man(0, 8), 1);
        y.law(Check.NONE);
        Check.same("by no LAW", y.man(0, 8), 0);
    }

    /** The WAR is over when all of a SIDE are HOME: the other one has WON (2: both are). */
    private static void overWhenAllOfASideAreHome() {
        Check.same("nobody", Check.war("md1;ms1d1").won(), Check.NONE);
        Check.same("all but one of each", Check.war("md0;md0;md1;ms1d1;ms1d0").won(), Check.NONE);
        Check.same("all of SIDE 0", Check.war("md0;md0;ms1d0;ms1d1").won(), 1);
        Check.same("all of SIDE 1", Check.war("ms1d0;md0;md1;ms1d0").won(), 0);
        Check.same("both", Check.war("md0;md0;ms1d0;ms1d0").won(), 2);
        Check.same("one of eight", Check.war("m;m;m;m;m;m;m;ms1d0").won(), 0);
        LastHome x = Check.war("md1;md1;ms1d1");
        x.go(0);
        Check.same("one is left", x.won(), Check.NONE);
        x.go(1);
        Check.same("none is left", x.won(), 1);
        Check.same("nothing more: go", x.go(2), Check.NONE);
        Check.same("nothing more: evening", x.evening(), Check.NONE);
        x.undo();
        Check.same("till it is UNDONE", x.won(), Check.NONE);
        LastHome y = Check.war("md2;ms1d2");
        Check.law(y, "y:y");
        y.law(0);
        y.evening();
        Check.same("both at once by the DAY", y.won(), 2);
        LastHome z = Check.war("md1;ms1d9v1;ok9");
        Check.same("PRESSED HOME", z.press(1, 0), 0);
        Check.same("who PRESSED has WON", z.won(), 1);
    }

    /** A MAN who is not HOME may do one deed a DAY. */
    private static void oneDeedADay() {
        String war = "md5v2;md5;ms1d5;ms1d9;ok5x4";
        for (int deed = 0; deed < 3; deed++) {
            LastHome x = Check.war(war);
            int got = deed == 0 ? x.go(0) : deed == 1 ? x.stay(0) : x.press(0, 3);
            Check.same("deed " + deed, got, new int[] {4, 3, 7}[deed]);
            Check.same("he did it", x.man(0, 7), 1);
            Check.same("no GO behind " + deed, x.go(0), Check.NONE);
            Check.same("no STAY behind " + deed, x.stay(0), Check.NONE);
            Check.same("no PRESS behind " + deed, x.press(0, 2), Check.NONE);
            men("others did none", x, 7, 1, 0, 0, 0);
            Check.same("others may", x.stay(1), 3);
            x.evening();
            men("all may again", x, 7, 0, 0, 0, 0);
            Check.same("he, too", x.go(0), deed == 0 ? 3 : 4);
        }
        LastHome y = Check.war(war);
        y.press(0, 2);
        Check.same("to be PRESSED is no deed", y.man(2, 7), 0);
        Check.same("so he may GO", y.go(2), 2);
        Check.same("and be PRESSED again", y.press(1, 2), 1);
        Check.same("he did one still", y.man(2, 7), 1);
        LastHome z = Check.war(war);
        z.go(2);
        Check.same("PRESSED behind his deed", z.press(0, 2), 2);
    }

    /** He GOES: one STEP less. NONE: no STEPS to go. */
    private static void goesOneStep() {
        LastHome x = Check.war("md20v5;ms1d20");
        for (int left = 19; left >= 0; left--) {
            Check.same("STEPS then", x.go(0), left);
            Check.same("HOME", x.man(0, 8), left == 0 ? 1 : 0);
            Check.same("the DAY", x.evening(), left == 0 ? Check.NONE : 20 - left);
        }
        Check.same("no more", x.go(0), Check.NONE);
        LastHome y = endless("md1;ms1d1");
        Check.same("to 0", y.go(0), 0);
        y.evening();
        Check.same("no STEPS to go, though not HOME", y.go(0), Check.NONE);
        Check.same("and no deed", y.man(0, 7), 0);
    }

    /** He STAYS: a REST less (with a REST above 0). */
    private static void staysWithARest() {
        for (int days = 1; days <= 9; days++) {
            LastHome x = Check.war("md3;ms1d20;ok3x" + days);
            for (int left = days - 1; left >= 0; left--) {
                Check.same("REST then", x.stay(0), left);
                x.evening();
            }
            Check.same("none left", x.stay(0), Check.NONE);
            steps("he stayed", x, 3, 20 - days);
            Check.same("the DAY", x.evening(), days + 1);
            steps("he went", x, 2, 19 - days);
        }
        Check.same("no ORCHARD", Check.war("md4;ms1;ok3").stay(0), Check.NONE);
    }

    /** The other one goes as many STEPS as the first one's SPEED (to 0 at most). */
    private static void pressesToZeroAtMost() {
        for (int speed = 1; speed <= 5; speed++) {
            for (int far = 1; far <= 20; far++) {
                LastHome x = Check.war("md6v" + speed + ";ms1d" + far + ";ms1d20;ok6");
                int due = Math.max(0, far - speed);
                Check.same(far + " by SPEED " + speed, x.press(0, 1), due);
                Check.same("STEPS then", x.man(1, 1), due);
                Check.same("REST then", x.man(1, 6), due == 6 ? 2 : 0);
                Check.same("HOME then", x.man(1, 8), due == 0 ? 1 : 0);
                Check.same("his own STEPS", x.man(0, 1), 6);
                Check.same("his own REST", x.man(0, 6), 1);
            }
        }
    }

    /** A REST of his own less (above 0). */
    private static void pressesWithARestOfHisOwn() {
        LastHome x = Check.war("md3;ms1d20;ms1d3;ok3x1");
        Check.same("with a REST of 1", x.press(0, 1), 19);
        rests("none left", x, 0, 0, 1);
        x.evening();
        Check.same("without one", x.press(0, 1), Check.NONE);
        Check.same("the other's REST does not help", x.press(1, 0), Check.NONE);
        LastHome y = Check.war("md4;ms1d20;ms1d3;ok3x1");
        Check.same("a STEP ahead of the ORCHARD", y.press(0, 1), Check.NONE);
        y.evening();
        Check.same("in it", y.press(0, 1), 18);
    }

    /** Of the other SIDE; when ALLIED is 1, of any. Alike: never. */
    private static void pressesTheOtherSideButAllied() {
        for (int allied = 0; allied < 2; allied++) {
            String war = "md3;md9;ms1d3;ms1d9;o;wg" + allied;
            Check.same("SIDE 0 by SIDE 0", Check.war(war).press(0, 1), allied == 1 ? 8 : Check.NONE);
            Check.same("SIDE 1 by SIDE 1", Check.war(war).press(2, 3), allied == 1 ? 8 : Check.NONE);
            Check.same("SIDE 1 by SIDE 0", Check.war(war).press(0, 3), 8);
            Check.same("SIDE 0 by SIDE 1", Check.war(war).press(2, 1), 8);
            Check.same("himself", Check.war(war).press(0, 0), Check.NONE);
            Check.same("himself", Check.war(war).press(2, 2), Check.NONE);
        }
        LastHome x = Check.war("md1;md3;ms1d9;o;wg1");
        Check.same("an ally HOME", x.press(1, 0), 0);
        Check.same("who is HOME is not PRESSED, ALLIED or not", x.press(1, 0), Check.NONE);
    }

    /** EVENING: .. GO, by numbers (till the WAR is over); the DAY is one later. */
    private static void eveningByNumbers() {
        LastHome x = Check.war("md1;ms1d1;md9;md1");
        Check.same("not over by one", x.evening(), 1);
        steps("all of them till SIDE 1 is HOME", x, 0, 0, 9, 1);
        Check.same("SIDE 0 has WON", x.won(), 0);
        LastHome y = Check.war("md1;ms1d1");
        Check.same("the DAY", y.evening(), 1);
        steps("the second does not GO", y, 0, 1);
        Check.same("SIDE 1 has WON, not both", y.won(), 1);
        LastHome z = Check.war("ms1d1;md1");
        z.evening();
        Check.same("by numbers, not by SIDES", z.won(), 0);
        LastHome both = Check.war("md2;ms1d2;ms1d1");
        both.evening();
        both.evening();
        steps("MAN 0 first", both, 0, 1, 0);
        Check.same("once a DAY", both.count(5), 2);
        Check.same("it is over", both.evening(), Check.NONE);
        LastHome last = Check.war("md2;ms1d1");
        Check.same("over by the last one", last.evening(), 1);
        steps("both went", last, 1, 0);
    }

    /** All who are not HOME, have STEPS to go and did no deed. */
    private static void eveningOfThoseWhoMay() {
        LastHome x = Check.war("md3b1;md3;md3;md0;md3;ms1d3;ms1d3;o");
        Check.law(x, "y:b");
        x.law(0);
        x.stay(1);
        x.press(2, 5);
        x.go(4);
        x.evening();
        steps("by EVENING", x, 3, 3, 3, 0, 2, 1, 2);
        rests("by EVENING", x, 2, 1, 1, 0, 0, 0, 0);
        men("no deeds", x, 7, 0, 0, 0, 0, 0, 0, 0);
        x.evening();
        steps("one more", x, 3, 2, 2, 0, 1, 0, 1);
        x.evening();
        steps("at 0 nobody goes", x, 3, 1, 1, 0, 0, 0, 0);
        Check.same("not over", x.won(), Check.NONE);
    }

    /** The DAY: 9,999 at most: none then. */
    private static void lastDayIs9999() {
        LastHome x = Scenes.lastDay();
        Check.same("the last DAY", x.count(5), 9999);
        Check.same("no EVENING", x.evening(), Check.NONE);
        Check.same("no MARCH", x.march(1, 1L), Check.NONE);
        Check.same("UNDONE", x.undo(), 39);
        Check.same("a DAY ahead of it", x.count(5), 9998);
        Check.same("two DAYS", x.march(2, 1L), Check.NONE);
        Check.same("one EVENING", x.evening(), 9999);
        Check.same("no other", x.evening(), Check.NONE);
        Check.same("an IMAGE on it", x.image(), 9999);
        x.undo();
        Check.same("BACK to it", x.back(), 9999);
        LastHome y = Check.war("md20;ms1d20");
        Check.law(y, "y:0");
        Check.law(y, "y:y/9999");
        y.law(0);
        for (int i = 0; i < 166; i++) {
            y.march(60, 0L);
        }
        y.march(38, 0L);
        y.law(1);
        Check.same("not over on DAY 9998", y.won(), Check.NONE);
        y.evening();
        Check.same("over on DAY 9999", y.won(), 2);
        // Those who have no BED march on at 0; the others are HOME with STEPS to go till the last DAY.
        LastHome z = Check.war("md0;md20b1;ms1d0;ms1d3b1;o");
        Check.law(z, "y:b");
        Check.law(z, "y:0");
        z.law(0);
        for (int i = 0; i < 166; i++) {
            z.march(60, i);
        }
        z.march(39, 1L);
        z.law(1);
        Check.same("GO on the last DAY", z.go(1), 19);
        Check.same("PRESS on the last DAY", z.press(3, 1), 18);
        Check.same("no EVENING behind it", z.evening(), Check.NONE);
        Check.same("UNDONE", z.undo(), 39);
    }

    /** The latest 40 can be UNDONE one by one: how many still can be. NONE: none. */
    private static void fortyActs() {
        for (int acts : new int[] {0, 1, 39, 40, 41, 79, 80, 81}) {
            LastHome x = endless("md20;ms1d20");
            for (int i = 0; i < acts; i++) {
                x.evening();
            }
            int can = Math.min(acts, 40);
            Check.same(acts + " ACTS", x.count(11), can);
            for (int left = can - 1; left >= 0; left--) {
                Check.same("still " + left + " of " + acts, x.undo(), left);
                Check.same("as many", x.count(11), left);
                Check.same("the DAY", x.count(5), acts - can + left);
            }
            Check.same("none of " + acts, x.undo(), Check.NONE);
            Check.same("the DAY stays", x.count(5), acts - can);
            Check.same("STEPS", x.man(0, 1), Math.max(0, 20 - acts + can));
            Check.same("a new ACT", x.evening(), acts - can + 1);
            Check.same("can be UNDONE", x.undo(), 0);
        }
        LastHome y = endless("md20;ms1d20");
        y.march(60, 3L);
        Check.same("forty of sixty DAYS", y.count(11), 40);
        for (int i = 0; i < 40; i++) {
            y.undo();
        }
        Check.same("twenty DAYS stay", y.count(5), 20);
        Check.same("none", y.undo(), Check.NONE);
    }

    /** All these are ACTS; what is refused is none, nor what asks, a LAW, a LETTER, an IMAGE, the TAPE. */
    private static void eachKindIsOneAct() {
        LastHome x = Check.war("md3v2;md3;ms1d9;ms1d20;o");
        x.go(0);
        Check.same("GO", x.count(11), 1);
        x.stay(1);
        Check.same("STAY", x.count(11), 2);
        x.go(1);
        x.stay(9);
        x.press(0, 2);
        x.march(0, 1L);
        x.march(61, 1L);
        Check.same("refused", x.count(11), 2);
        x.evening();
        Check.same("EVENING", x.count(11), 3);
        x.press(1, 2);
        Check.same("PRESS", x.count(11), 4);
        x.march(3, 1L);
        Check.same("three DAYS", x.count(11), 7);
        Check.law(x, "y:0");
        x.law(0);
        x.letter(1, 1);
        x.image();
        x.duel(2, 3, 0);
        Check.fed(x, "m");
        Check.same("no ACTS", x.count(11), 7);
        for (int i = 0; i < 3; i++) {
            x.undo();
        }
        steps("the MARCH UNDONE DAY by DAY", x, 2, 3, 7, 19);
        Check.same("MAN 1 did a deed", x.man(1, 7), 1);
        x.undo();
        steps("PRESS UNDONE", x, 2, 3, 8, 19);
        rests("PRESS UNDONE", x, 0, 1, 0, 0);
        Check.same("MAN 1 did none", x.man(1, 7), 0);
        x.undo();
        steps("EVENING UNDONE", x, 2, 3, 9, 20);
        men("EVENING UNDONE: deeds", x, 7, 1, 1, 0, 0);
        Check.same("the DAY", x.count(5), 0);
        x.undo();
        rests("STAY UNDONE", x, 0, 2, 0, 0);
        x.undo();
        steps("GO UNDONE", x, 3, 3, 9, 20);
        rests("GO UNDONE", x, 2, 2, 0, 0);
        Check.same("the LAW holds", x.count(4), 0);
        Check.same("the LETTER is there", x.count(9), 1);
        Check.same("the TAPE, too", x.count(3), 1);
    }

    /** The latest ACT is UNDONE (the LOG, too). */
    private static void undoneWithTheLog() {
        LastHome x = Check.war("md5;md5;ms1d9;ok5x9");
        x.stay(0);
        x.go(1);
        x.evening();
        Check.same("three lines", x.count(10), 3);
        x.undo();
        Check.same("two", x.count(10), 2);
        Check.same("GO is the latest", x.log(0, 0), 0);
        x.undo();
        x.undo();
        Check.same("none", x.count(10), 0);
        Check.same("no line", x.log(0, 0), Check.HIDDEN);
        x.go(2);
        Check.same("another line", x.log(0, 1), 2);
        Check.same("one alone", x.count(10), 1);
        for (int lines : new int[] {59, 60, 61, 99, 100}) {
            LastHome y = endless("md20;ms1d20;ok20x9");
            y.stay(1);
            for (int i = 1; i < lines; i++) {
                y.evening();
            }
            Check.same("lines", y.count(10), Math.min(60, lines));
            y.undo();
            Check.same("one less, or one from beyond the sixty", y.count(10), Math.min(60, lines - 1));
            if (lines <= 61) {
                Check.same("STAY is the first line", y.log(lines - 2, 0), 1);
            }
        }
    }

    /** A seed by which all eight draw the deed, being never ILL. */
    private static long seedOf(int deed) {
        for (long seed = 0; seed < 1000000; seed++) {
            long[] chance = {seed};
            boolean all = true;
            for (int m = 0; m < 8 && all; m++) {
                draw(chance, 10);
                all = draw(chance, 3) == deed;
            }
            if (all) {
                return seed;
            }
        }
        throw new IllegalStateException("no such seed");
    }

    /** Forty DAYS on each of which all eight did a deed are UNDONE: the sixty lines ahead of them are told again. */
    private static void undoneWithTheLongestLog() {
        LastHome x = endless("md20;md20;md20;md20;ms1d20;ms1d20;ms1d20;ms1d20"
            + ";ok20x9;ok19x9;ok18x9;ok17x9;ok16x9;ok15x9");
        long stay = seedOf(1);
        long go = seedOf(0);
        int[] told = new int[60];
        for (int day = 1; day <= 49; day++) {
            Check.same("the DAY", x.march(1, day % 10 == 0 ? go : stay), day);
            if (day == 9) {
                for (int i = 0; i < 60; i++) {
                    told[i] = x.log(i, 0) * 100 + x.log(i, 1) * 10 + x.log(i, 2);
                }
            }
        }
        Check.same("nine lines a DAY", x.log(9, 0) * 10 + x.log(18, 0), 33);
        Check.same("sixty lines", x.count(10), 60);
        for (int left = 39; left >= 0; left--) {
            Check.same("UNDONE", x.undo(), left);
        }
        Check.same("the DAY", x.count(5), 9);
        Check.same("sixty lines again", x.count(10), 60);
        for (int i = 0; i < 60; i++) {
            Check.same("line " + i, x.log(i, 0) * 100 + x.log(i, 1) * 10 + x.log(i, 2), told[i]);
        }
        rests("all RESTS are spent again", x, 0, 0, 0, 0, 0, 0, 0, 0);
    }

    /** LOG: the latest 60. */
    private static void sixtyLines() {
        for (int lines = 0; lines <= 63; lines++) {
            LastHome x = endless("md20;ms1d20;ok20x9");
            for (int i = 0; i < lines; i++) {
                if (i == 0) {
                    x.stay(0);
                } else {
                    x.evening();
                }
            }
            int told = Math.min(lines, 60);
            Check.same("how long it is behind " + lines, x.count(10), told);
            Check.same("behind the last of " + lines, x.log(told, 0), Check.HIDDEN);
            if (lines > 0) {
                Check.same("the first of " + lines, x.log(told - 1, 0), lines <= 60 ? 1 : 3);
            }
        }
    }

    /** 0 what, 1 who (NONE), 2 whom (NONE); 0 GONE, 1 STAYED, 2 PRESSED, 3 EVENING (who GOES by it is not told). */
    private static void linesOfTheLog() {
        LastHome x = Check.war("md3;md3;md9;m;ms1d9;ms1d3;ms1;ms1d9;o;wg1");
        x.go(7);
        x.go(0);
        x.stay(1);
        x.press(5, 0);
        x.evening();
        x.press(1, 7);
        x.go(0);
        int[][] due = {
            {0, 0, -1}, {2, 1, 7}, {3, -1, -1}, {2, 5, 0}, {1, 1, -1}, {0, 0, -1}, {0, 7, -1}
        };
        Check.same("lines", x.count(10), due.length);
        for (int i = 0; i < due.length; i++) {
            for (int what = 0; what < 3; what++) {
                Check.same("line " + i + " what " + what, x.log(i, what), due[i][what]);
            }
        }
        Check.same("no line", x.log(due.length, 0), Check.HIDDEN);
        Check.same("line -1", x.log(-1, 0), Check.HIDDEN);
        Check.same("what 3", x.log(0, 3), Check.HIDDEN);
        Check.same("what -1", x.log(0, -1), Check.HIDDEN);
    }

    private static int draw(long[] x, int of) {
        x[0] = x[0] * 6364136223846793005L + 1442695040888963407L;
        return (int) ((x[0] >>> 33) % of);
    }

    /** MARCHES of n (1 .. 60) DAYS: the DAY. */
    private static void marchOfDays() {
        for (int n = -1; n <= 62; n++) {
            LastHome x = endless("md20;ms1d20");
            boolean right = n >= 1 && n <= 60;
            Check.same("march " + n, x.march(n, 4L), right ? n : Check.NONE);
            Check.same("the DAY behind march " + n, x.count(5), right ? n : 0);
            Check.same("ACTS behind march " + n, x.count(11), right ? Math.min(n, 40) : 0);
            Check.same("an EVENING on each DAY", x.log(0, 0), right ? 3 : Check.HIDDEN);
        }
        LastHome y = endless("md20;ms1d20");
        y.evening();
        Check.same("from DAY 1 on", y.march(60, 4L), 61);
    }

    /**
     * Each MAN who is not HOME and did no deed, by numbers: a draw of 10, a draw of 3: 0 he GOES (with STEPS to go),
     * 1 he STAYS; if he cannot, nothing. Nobody here has a REST, MAN 1 is HOME, and nobody GOES by the DAY's end.
     */
    private static void marchDrawsForThoseWhoMay() {
        for (long seed = 0; seed < 30; seed++) {
            LastHome x = Check.war("md20;md0;ms1d20;ms1d20");
            x.go(2);
            long[] chance = {seed};
            int[] left = {20, 0, 19, 20};
            int lines = 1;
            for (int day = 0; day < 8; day++) {
                for (int m = 0; m < 4; m++) {
                    if (m != 1 && (m != 2 || day > 0)) {
                        draw(chance, 10);
                        if (draw(chance, 3) == 0) {
                            left[m]--;
                            lines++;
                        }
                    }
                }
                lines++;
            }
            Check.same("the DAY", x.march(8, seed), 8);
            steps("by seed " + seed, x, left);
            Check.same("lines by seed " + seed, x.count(10), Math.min(60, lines));
        }
        for (long seed = 0; seed < 30; seed++) {
            LastHome x = endless("md0;ms1d1");
            long[] chance = {seed};
            int left = 1;
            int lines = 0;
            for (int day = 0; day < 5; day++) {
                draw(chance, 10);
                draw(chance, 3);
                draw(chance, 10);
                if (draw(chance, 3) == 0 && left > 0) {
                    left--;
                    lines++;
                }
                lines++;
            }
            x.march(5, seed);
            steps("who is not HOME at 0 draws, too, by seed " + seed, x, 0, left);
            Check.same("but does nothing by seed " + seed, x.count(10), lines);
        }
    }

    /** A draw of 10 below ILL: nothing (and no other draw). */
    private static void marchOfTheIll() {
        for (int ill = 0; ill <= 9; ill++) {
            LastHome x = Check.war("md20i" + ill + ";ms1d20i" + (9 - ill));
            long[] chance = {99};
            int[] left = {20, 20};
            for (int day = 0; day < 12; day++) {
                for (int m = 0; m < 2; m++) {
                    if (draw(chance, 10) >= (m == 0 ? ill : 9 - ill) && draw(chance, 3) == 0) {
                        left[m]--;
                    }
                }
            }
            x.march(12, 99L);
            steps("ILL " + ill, x, left);
        }
    }

    /** 1 he STAYS, 2 he PRESSES the lowest he may; if he cannot, nothing. */
    private static void marchPressesTheLowest() {
        int[] seen = new int[3];
        for (long seed = 0; seed < 40; seed++) {
            for (int allied = 0; allied < 2; allied++) {
                // MAN 3 alone has a REST; those ahead of him are ILL as often as can be.
                LastHome x = Check.war("ms1d0;ms1d9i9;md9i9;ms1d3v2;md9i9;ok3x1;wg" + allied);
                long[] chance = {seed};
                boolean quiet = true;
                for (int m = 1; m < 3; m++) {
                    quiet = quiet && draw(chance, 10) < 9;
                }
                draw(chance, 10);
                int deed = draw(chance, 3);
                quiet = quiet && draw(chance, 10) < 9;
                if (!quiet) {
                    continue;
                }
                seen[deed]++;
                x.march(1, seed);
                int whom = deed != 2 ? Check.NONE : allied == 1 ? 1 : 2;
                steps("seed " + seed, x, 0, whom == 1 ? 7 : 9, whom == 2 ? 7 : 9, deed == 0 ? 2 : 3, 9);
                Check.same("his REST", x.man(3, 6), 0);
                Check.same("two lines", x.count(10), 2);
                Check.same("what", x.log(1, 0), deed);
                Check.same("who", x.log(1, 1), 3);
                Check.same("whom", x.log(1, 2), whom);
                Check.same("one ACT", x.count(11), 1);
                x.undo();
                steps("UNDONE", x, 0, 9, 9, 3, 9);
                Check.same("REST UNDONE", x.man(3, 6), 1);
                Check.same("LOG UNDONE", x.count(10), 0);
            }
        }
        for (int deed = 0; deed < 3; deed++) {
            Check.same("deed " + deed + " was seen", seen[deed] > 0, true);
        }
        for (long seed = 0; seed < 20; seed++) {
            // With a REST he may PRESS nobody: the others have no STEPS to go.
            LastHome x = endless("md3;ms1d0;o;wg1");
            long[] chance = {seed};
            draw(chance, 10);
            int deed = draw(chance, 3);
            x.march(1, seed);
            Check.same("REST by seed " + seed, x.man(0, 6), deed == 0 ? 0 : deed == 1 ? 1 : 2);
            Check.same("lines by seed " + seed, x.count(10), deed == 2 ? 1 : 2);
        }
        LastHome eight = endless("md3;md3;md3;md3;md3;md3;md3;ms1d0;o");
        long[] chance = {seedOf(2)};
        Check.same("the DAY", eight.march(1, chance[0]), 1);
        Check.same("seven PRESS nobody", eight.count(10), 1);
        rests("seven keep their RESTS", eight, 2, 2, 2, 2, 2, 2, 2, 0);
        LastHome pressed = endless("md3;md3;md3;md3;md3;md3;md3;ms1d20;o");
        pressed.march(1, chance[0]);
        Check.same("seven PRESS the last one", pressed.man(7, 1), 13);
        Check.same("eight lines, he has no REST", pressed.count(10), 8);
    }

    /** By numbers (till the WAR is over); the DAY on which the WAR is over ends so, too. */
    private static void marchTillItIsOver() {
        int firstWent = 0;
        for (long seed = 0; seed < 30; seed++) {
            LastHome x = Check.war("md1;ms1d1");
            long[] chance = {seed};
            int[] left = {1, 1};
            int day = 0;
            while (left[0] > 0 && left[1] > 0) {
                draw(chance, 10);
                left[0] -= draw(chance, 3) == 0 ? 1 : 0;
                if (left[0] > 0) {
                    draw(chance, 10);
                    left[1] -= draw(chance, 3) == 0 ? 1 : 0;
                }
                day++;
            }
            firstWent += left[0] == 0 ? 1 : 0;
            Check.same("the DAY by seed " + seed, x.march(60, seed), day);
            steps("by seed " + seed, x, left);
            Check.same("WON by seed " + seed, x.won(), left[0] == 0 ? 1 : 0);
            Check.same("an ACT for each DAY", x.count(11), day);
            Check.same("the last DAY ends", x.log(0, 0), 3);
            Check.same("behind the deed", x.log(1, 0), 0);
            Check.same("no other MARCH", x.march(1, seed), Check.NONE);
        }
        Check.same("both ways were seen", firstWent > 0 && firstWent < 30, true);
        LastHome y = Check.war("md20;ms1d20");
        Check.law(y, "y:y>2?1");
        y.law(0);
        Check.same("over by the DAY", y.march(60, 1L), 3);
        Check.same("three ACTS", y.count(11), 3);
    }

    /** Who did a deed ahead of the MARCH does none on its first DAY; all may again behind it. */
    private static void marchFromWhatWasDone() {
        LastHome x = Check.war("md20;ms1d20;ok20x9");
        x.stay(0);
        x.stay(1);
        Check.same("the DAY", x.march(1, 5L), 1);
        steps("nobody went", x, 20, 20);
        rests("nobody STAYED again", x, 8, 8);
        men("may again", x, 7, 0, 0);
        Check.same("three lines", x.count(10), 3);
        x.undo();
        men("deeds are there again", x, 7, 1, 1);
        Check.same("the DAY", x.count(5), 0);
    }

    /** x, at first the seed (64 bits, going round); shifted right by 33, without sign. */
    private static void marchBySeeds() {
        long[] seeds = {0, 1, -1, Long.MAX_VALUE, Long.MIN_VALUE, 1L << 32, -(1L << 33), 6364136223846793005L};
        for (long seed : seeds) {
            LastHome x = Check.war("md20i3;ms1d20i6");
            long[] chance = {seed};
            int[] left = {20, 20};
            for (int day = 0; day < 15; day++) {
                for (int m = 0; m < 2; m++) {
                    if (draw(chance, 10) >= (m == 0 ? 3 : 6) && draw(chance, 3) == 0) {
                        left[m]--;
                    }
                }
            }
            x.march(15, seed);
            steps("seed " + seed, x, left);
        }
    }

    /** NONE: beyond the last DAY. */
    private static void marchToTheLastDay() {
        for (int days = 1; days <= 3; days++) {
            for (int n = 1; n <= 4; n++) {
                LastHome x = Scenes.lastDay();
                for (int u = 0; u < days; u++) {
                    x.undo();
                }
                Check.same(n + " DAYS of " + days, x.march(n, 1L), n <= days ? 9999 - days + n : Check.NONE);
                Check.same("the DAY", x.count(5), n <= days ? 9999 - days + n : 9999 - days);
            }
        }
    }

    /** An IMAGE (instead of the one ahead): the DAY. It keeps STEPS, RESTS, deeds, the DAY; BACK: they are so again. */
    private static void imageOfTheDay() {
        LastHome x = Check.war("md5v2;md5;ms1d9;ms1d5;ok5x4");
        Check.same("on DAY 0", x.image(), 0);
        x.stay(0);
        x.evening();
        x.press(0, 2);
        Check.same("on DAY 1", x.image(), 1);
        x.go(1);
        x.evening();
        x.evening();
        Check.same("BACK", x.back(), 1);
        Check.same("the DAY", x.count(5), 1);
        steps("BACK", x, 5, 4, 6, 4);
        rests("BACK", x, 2, 0, 0, 0);
        men("BACK: deeds", x, 7, 1, 0, 0, 0);
        x.evening();
        Check.same("BACK again", x.back(), 1);
        steps("BACK again", x, 5, 4, 6, 4);
        Check.same("BACK at once", x.back(), 1);
        LastHome y = Check.war("md1;ms1d1");
        y.image();
        y.evening();
        Check.same("over", y.won(), 1);
        Check.same("BACK, though it is over", y.back(), 0);
        Check.same("not over", y.won(), Check.NONE);
        y.evening();
        Check.same("an IMAGE, though it is over", y.image(), 1);
        y.back();
        Check.same("still over", y.won(), 1);
    }

    /** An IMAGE keeps .. the LOG. */
    private static void imageKeepsTheLog() {
        for (int lines : new int[] {0, 1, 59, 60, 61}) {
            LastHome x = endless("md20;ms1d20;ok20x9");
            for (int i = 0; i < lines; i++) {
                if (i == lines - 60 || i == 0) {
                    x.stay(i == 0 ? 0 : 1);
                } else {
                    x.evening();
                }
            }
            x.image();
            int told = x.count(10);
            Check.same("lines", told, Math.min(60, lines));
            for (int i = 0; i < 70; i++) {
                x.evening();
            }
            x.back();
            Check.same("as long as it was", x.count(10), told);
            Check.same("none beyond", x.log(told, 0), Check.HIDDEN);
            if (told > 0) {
                Check.same("the first line", x.log(told - 1, 0), 1);
            }
            x.evening();
            Check.same("one more", x.count(10), Math.min(60, told + 1));
            x.undo();
            Check.same("one less", x.count(10), told);
        }
    }

    /** No ACT can be UNDONE then; LAWS, LETTERS and the TAPE are not of the IMAGE; ACTS can be as long as there is no BACK. */
    private static void backLeavesTheRest() {
        LastHome x = Check.war("md5b1;ms1d5");
        Check.law(x, "y:b");
        x.evening();
        x.image();
        Check.same("an IMAGE leaves ACTS", x.count(11), 1);
        x.law(0);
        x.letter(3, 1);
        Check.fed(x, "abc");
        Check.same("HOME by the LAW", x.count(8), 1);
        x.law(Check.NONE);
        x.evening();
        x.law(0);
        x.back();
        Check.same("the LAW holds", x.count(4), 0);
        Check.same("HOME by it", x.count(8), 1);
        Check.same("the LETTER stays", x.count(9), 1);
        Check.same("the TAPE stays", x.count(3), 3);
        Check.same("no ACTS", x.count(11), 0);
        Check.same("none UNDONE", x.undo(), Check.NONE);
        x.law(Check.NONE);
        x.go(0);
        Check.same("an ACT again", x.undo(), 0);
        Check.same("no other one", x.undo(), Check.NONE);
        Check.same("the IMAGE is there still", x.back(), 1);
    }

    /** BACK. NONE: no IMAGE of this WAR. */
    private static void noImageOfThisWar() {
        LastHome x = new LastHome();
        Check.same("no WAR", x.back(), Check.NONE);
        Check.same("no WAR", x.image(), Check.NONE);
        Check.war(x, "m;ms1");
        Check.same("none yet", x.back(), Check.NONE);
        x.image();
        Check.same("one", x.back(), 0);
        Check.fed(x, "m;");
        x.text(0);
        Check.same("a refused WAR leaves it", x.back(), 0);
        Check.war(x, "m;ms1");
        Check.same("of another WAR", x.back(), Check.NONE);
        x.evening();
        Check.same("even if it goes on", x.back(), Check.NONE);
        Check.same("nothing is UNDONE by it", x.undo(), 0);
    }

    /** Of a MAN: 0 .. 8. NoSuchElementException: no such ones. */
    private static void thingsOfAMan() {
        LastHome x = Check.war("ms1d20v5b1n9i9;md0v1b0n0i0;m;ok20x9");
        int[][] due = {{1, 20, 5, 1, 9, 9, 9, 0, 0}, {0, 0, 1, 0, 0, 0, 0, 0, 1}, {0, 6, 1, 0, 3, 0, 0, 0, 0}};
        for (int m = -2; m <= 9; m++) {
            for (int what = -2; what <= 10; what++) {
                boolean right = m >= 0 && m < 3 && what >= 0 && what <= 8;
                Check.same("man " + m + " " + what + " throws", Check.throwsNoSuchElement(x, m, what), !right);
                if (right) {
                    Check.same("man " + m + " " + what, x.man(m, what), due[m][what]);
                }
            }
        }
        x.stay(0);
        Check.same("a deed", x.man(0, 7), 1);
        Check.same("a REST less", x.man(0, 6), 8);
        Check.same("no WAR", Check.throwsNoSuchElement(new LastHome(), 0, 0), true);
        LastHome eight = Check.war("m;m;m;m;m;m;m;ms1");
        Check.same("MAN 7", eight.man(7, 0), 1);
        Check.same("MAN 8", Check.throwsNoSuchElement(eight, 8, 0), true);
    }
}
