/** Promises 17 to 26, 34 to 39 and 41 to 43: DUELS, ESCORTS, loopholes and ways. */
public final class WayTest {
    private WayTest() {
    }

    public static void main(String[] args) {
        checkDuel();
        checkLargestDuels();
        checkChampions();
        checkTreaty();
        checkEscorts();
        checkLoopholes();
        checkAway();
        checkForced();
        checkSides();
        checkOrchardsAhead();
        checkRest();
        Check.finish("WayTest");
    }

    private static void duel(String war, int wins, int turns, int deed) {
        LastHome x = Check.war(war);
        Check.same("wins " + war, x.duel(0, 1, 0), wins);
        Check.same("turns " + war, x.duel(0, 1, 1), turns);
        Check.same("deed " + war, x.duel(0, 1, 2), deed);
    }

    private static void checkDuel() {
        duel("md1;ms1d1", 0, 1, 0);
        duel("md2;ms1d1", 1, 2, 0);
        duel("md2;ms1d2", 0, 3, 0);
        duel("md1;ms1d9;ok1x1", 0, 3, 1);
        duel("md1;ms1d2;ok1x1", 0, 3, 1);
        duel("md1v2;ms1d2;ok1x1", 1, 1, 2);
        duel("md1v5;ms1d1;ok1x1", 1, 1, 2);
        duel("md3;ms1d1;ok3x1", 1, 1, 2);
        duel("md4;md1;ms1", 1, 2, 0);
        LastHome x = Check.war("md3;ms1d0;md2");
        Check.same("one has no STEPS to go", x.duel(0, 1, 0), Check.NONE);
        Check.same("nor the first", x.duel(1, 0, 0), Check.NONE);
        Check.same("alike", x.duel(2, 2, 0), Check.NONE);
        Check.same("no MAN 3", x.duel(0, 3, 0), Check.NONE);
        Check.same("no MAN -1", x.duel(-1, 0, 0), Check.NONE);
        Check.same("what 3", x.duel(0, 2, 3), Check.NONE);
        Check.same("what -1", x.duel(0, 2, -1), Check.NONE);
        Check.same("one SIDE, the WAR being over", x.duel(0, 2, 0), 1);
        LastHome y = Check.war("md1;ms1d2;md3;ok1x1");
        y.stay(0);
        Check.same("the REST is spent", y.duel(0, 1, 1), 1);
    }

    /** All STEPS and all DAYS of ORCHARDS that there can be, by all SPEEDS. */
    private static void checkLargestDuels() {
        String orchards = ";ok20x9;ok19x9;ok12x9;ok8x9;ok5x9;ok1x9";
        for (int v = 1; v <= 5; v++) {
            String war = "md20v" + v + ";ms1d20v1;ms1d19v2;ms1d12v3;ms1d8v4;ms1d20v5" + orchards;
            LastHome x = Check.war(war);
            Model y = new Model();
            y.tape = war;
            y.text(0);
            for (int o = 1; o <= 5; o++) {
                for (int what = 0; what < 3; what++) {
                    Check.same(war + " duel with " + o, x.duel(0, o, what), y.duel(0, o, what));
                    Check.same(war + " duel of " + o, x.duel(o, 0, what), y.duel(o, 0, what));
                }
                Check.same(war + " treaty with " + o, x.treaty(0, o), y.treaty(0, o));
            }
            Check.same(war + " victors", x.victors(0), y.victors(0));
            Check.same(war + " champion", x.champion(1), y.champion(1));
        }
    }

    private static void checkChampions() {
        LastHome x = Check.war("md2;md4;md4;ms1d1;ms1d3;ms1d0");
        Check.same("champion 0", x.champion(0), 1);
        Check.same("victors 0", x.victors(0), 6);
        Check.same("champion 1", x.champion(1), 4);
        Check.same("victors 1", x.victors(1), 0);
        Check.same("SIDE 2", x.champion(2), Check.NONE);
        Check.same("SIDE -1", x.champion(-1), Check.NONE);
        Check.same("SIDE 2", x.victors(2), Check.NONE);
        Check.same("SIDE -1", x.victors(-1), Check.NONE);
        LastHome y = Check.war("md0;md3;ms1d0");
        Check.same("nobody", y.champion(1), Check.NONE);
        Check.same("with nobody to win against", y.champion(0), 1);
        Check.same("there must be one", y.victors(0), 0);
        Check.same("none with STEPS", y.victors(1), 0);
        Check.same("no WAR", new LastHome().champion(1), Check.NONE);
        Check.same("no WAR", new LastHome().victors(1), Check.NONE);
    }

    private static void checkTreaty() {
        Check.same("no REST", Check.war("md2;ms1d1").treaty(0, 1), 0);
        LastHome x = Check.war("md3v1;ms1d3v1;ok3x3;md0");
        Check.same("alike", x.treaty(1, 1), Check.NONE);
        Check.same("no STEPS", x.treaty(1, 2), Check.NONE);
        Check.same("no MAN", x.treaty(1, 3), Check.NONE);
        Check.same("no MAN", x.treaty(-1, 1), Check.NONE);
        Check.same("treaty", x.treaty(0, 1), treatyByStays("md3v1;ms1d3v1;ok3x3;md0", 3));
        String far = "md20v5;ms1d20v5;ok20x9;ok10x2";
        Check.same("treaty", Check.war(far).treaty(0, 1), treatyByStays(far, 9));
        String unlike = "md4v3;ms1d4v1;ok4x6;ok1x1";
        Check.same("treaty", Check.war(unlike).treaty(0, 1), treatyByStays(unlike, 6));
        Check.same("the other way", Check.war(unlike).treaty(1, 0) >= 0, true);
    }

    /** Both STAY in a WAR of their own, DAY by DAY. */
    private static int treatyByStays(String text, int most) {
        LastHome x = Check.war(text);
        int now = x.duel(0, 1, 0);
        for (int n = 1; n <= most; n++) {
            x.stay(0);
            x.stay(1);
            x.evening();
            if (x.duel(0, 1, 0) != now) {
                return n - 1;
            }
        }
        return most;
    }

    private static void escorts(String war, int side, int most, int row) {
        LastHome x = Check.war(war);
        Check.same("escorts " + war, x.escorts(side, 0), most);
        Check.same("row " + war, x.escorts(side, 1), row);
    }

    private static void checkEscorts() {
        escorts("md3;ms1d1;o", 0, 1, 1);
        escorts("md3;ms1d1;o", 1, 0, 0);
        escorts("md3;ms1d2;o", 0, 0, 9);
        escorts("md3v2;md3;ms1d1;ms1d2;o", 0, 2, 32);
        escorts("md3v2;md3v2;ms1d1;ms1d2;o", 0, 2, 23);
        escorts("md3v2;md3v2;ms1d1;o", 0, 1, 29);
        escorts("md3;md3v2;ms1d2;o", 0, 1, 92);
        escorts("ms1d1;md3v2;md3v2;o", 0, 1, 9);
        escorts("ms1d1;ms1d1;md3v2;md3v2;o", 0, 2, 1);
        escorts("md3v2;md3;ms1d0;ms1d1;o;wg1", 0, 1, 39);
        LastHome x = Check.war("md3;ms1d1;o");
        Check.same("SIDE 2", x.escorts(2, 0), Check.NONE);
        Check.same("SIDE -1", x.escorts(-1, 0), Check.NONE);
        Check.same("what 2", x.escorts(0, 2), Check.NONE);
        Check.same("what -1", x.escorts(0, -1), Check.NONE);
        x.stay(0);
        Check.same("a deed does not matter", x.escorts(0, 0), 1);
        LastHome y = Check.war("md3b1;md3;md3;ms1d1b1;ms1d1;ms1d0;ms1d2;o");
        Check.law(y, "y:b");
        y.law(0);
        Check.same("who is HOME does not count", y.escorts(0, 0), 1);
        Check.same("nor is he PRESSED, nor who has no STEPS to go", y.escorts(0, 1), 49);
        LastHome z = Check.war("md3;ms1d0;o");
        Check.law(z, "y:0");
        z.law(0);
        Check.same("nobody who has STEPS to go", z.escorts(0, 0), 0);
        Check.same("so nobody is PRESSED", z.escorts(0, 1), 9);
        Check.same("as press has it", z.press(0, 1), Check.NONE);
    }

    private static void checkLoopholes() {
        LastHome x = Check.war("md3b1;md2;ms1d0b1;ms1d4b1n0");
        Check.same("no LAW", x.loophole(0), Check.NONE);
        Check.same("no LAW", x.closed(), Check.NONE);
        Check.same("reads none", x.reads(0), 0);
        Check.law(x, "y:b");
        Check.same("loophole", x.loophole(0), 9);
        Check.same("reads", x.reads(2), 1);
        Check.same("not by all", x.closed(), Check.NONE);
        Check.law(x, "y:d>2?n");
        Check.same("loophole", x.loophole(1), 1);
        Check.same("not by all", x.closed(), Check.NONE);
        Check.law(x, "y:3-d");
        Check.same("loophole", x.loophole(2), 2);
        Check.same("two of three", x.closed(), 5);
        Check.same("reads", x.reads(0), 3);
        Check.same("reads", x.reads(2), 5);
        Check.law(x, "y:d=0?1");
        Check.same("one of four", x.closed(), 8);
        Check.same("LAW 4", x.loophole(4), Check.NONE);
        Check.same("LAW -1", x.loophole(-1), Check.NONE);
        Check.same("MAN 4", x.reads(4), Check.NONE);
        Check.same("MAN -1", x.reads(-1), Check.NONE);
        LastHome y = new LastHome();
        Check.law(y, "y:0");
        Check.same("no WAR", y.loophole(0), Check.NONE);
        Check.same("no WAR", y.closed(), Check.NONE);
        Check.same("no WAR", y.reads(0), Check.NONE);
        Check.war(y, "md0;ms1d0");
        Check.same("at least one", y.closed(), 1);
        LastHome z = Check.war("m;ms1");
        Check.law(z, "y:y-1");
        Check.same("not on DAY 0", z.loophole(0), 0);
        z.evening();
        Check.same("not on DAY 1", z.reads(1), 0);
        z.evening();
        Check.same("on DAY 2", z.loophole(0), 3);
    }

    private static void checkAway() {
        LastHome x = Check.war("md5;md0;ms1d20;ok5x3;ok4x2;ok1x9;ok20x1;ok6x9");
        Check.same("away", x.away(0), 5 + 3 + 2 + 9);
        Check.same("away", x.away(1), 0);
        Check.same("away", x.away(2), 20 + 3 + 2 + 9 + 1 + 9);
        x.stay(0);
        Check.same("a DAY less", x.away(0), 18);
        Check.same("no MAN", x.away(3), Check.NONE);
        Check.same("no MAN", x.away(-1), Check.NONE);
    }

    private static void checkForced() {
        LastHome x = Check.war("md20;ms1d3v2;ms1d5v3;md9;ok3x1;ok5x4;md0");
        Check.same("1+2+3, then 1+3 thrice, then 1", x.forced(0), 6);
        Check.same("1+2+3, then 1+3", x.forced(3), 2);
        Check.same("nobody there has a REST", x.forced(1), 3);
        Check.same("0 STEPS", x.forced(4), 0);
        Check.same("by his own STEPS alone", Check.war("md20;ms1").forced(0), 20);
        Check.same("no MAN", x.forced(5), Check.NONE);
        Check.same("no MAN", x.forced(-1), Check.NONE);
    }

    private static void checkSides() {
        LastHome x = Check.war("md4;ms1d6;md7;ms1d6;md7;ms1d0");
        Check.same("soonest 0", x.soonest(0), 7);
        Check.same("soonest 1", x.soonest(1), 6);
        Check.same("soonest 2", x.soonest(2), Check.NONE);
        Check.same("soonest -1", x.soonest(-1), Check.NONE);
        Check.same("pony 0", x.pony(0), 2);
        Check.same("pony 1", x.pony(1), 1);
        Check.same("pony 2", x.pony(2), Check.NONE);
        Check.same("pony -1", x.pony(-1), Check.NONE);
        Check.same("last", x.last(), 2);
        Check.same("behind 0", x.behind(0), 21);
        Check.same("behind 1", x.behind(1), 10);
        Check.same("behind 2", x.behind(2), Check.NONE);
        Check.same("behind -1", x.behind(-1), Check.NONE);
        Check.same("even", x.even(), 0);
        Check.same("even", Check.war("md4;md2;ms1d6").even(), 1);
        Check.same("all at 0", Check.war("md0;ms1d0").even(), 1);
        Check.same("last of all at 0", Check.war("md0;ms1d0").last(), 0);
        Check.same("soonest at 0", Check.war("md0;ms1d0").soonest(1), 0);
    }

    private static void checkOrchardsAhead() {
        LastHome x = Check.war("md5;md0;ms1d20;ok5x3;ok2x2;ok1x9;ok20x1;ok4x9");
        Check.same("next", x.next(0), 4);
        Check.same("next", x.next(1), Check.NONE);
        Check.same("next", x.next(2), 0);
        Check.same("next", x.next(3), Check.NONE);
        Check.same("next", x.next(-1), Check.NONE);
        Check.same("ahead", x.ahead(0), 2 + 4 + 16);
        Check.same("ahead", x.ahead(1), 0);
        Check.same("ahead", x.ahead(2), 1 + 2 + 4 + 16);
        Check.same("ahead", x.ahead(3), Check.NONE);
        Check.same("ahead", x.ahead(-1), Check.NONE);
    }

    private static void checkRest() {
        LastHome x = Check.war("md5n1;md2n4;ms1d9n4;ms1d0n9");
        Check.same("weary", x.weary(), 1);
        Check.law(x, "y:1");
        x.law(0);
        Check.same("all are HOME", x.weary(), Check.NONE);
        Check.same("meeting", x.meeting(0, 2), 4);
        Check.same("meeting", x.meeting(2, 0), 4);
        Check.same("meeting of one", x.meeting(1, 1), 0);
        Check.same("meeting", x.meeting(0, 4), Check.NONE);
        Check.same("meeting", x.meeting(-1, 0), Check.NONE);
        Check.same("even without WAR", new LastHome().even(), Check.NONE);
        Check.same("last without WAR", new LastHome().last(), Check.NONE);
        Check.same("weary without WAR", new LastHome().weary(), Check.NONE);
        Check.same("meeting without WAR", new LastHome().meeting(0, 0), Check.NONE);
    }
}
