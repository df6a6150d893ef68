/** The edges of part 3 of the Terms in promises 17 to 26, 34 to 39 and 41 to 43. Each check bears the words it holds to. */
public final class EdgeWayTest {
    private EdgeWayTest() {
    }

    public static void main(String[] args) {
        duelByGoingAlone();
        duelByOnePress();
        duelByStaying();
        duelAsTheyAre();
        duelsOfAllSorts();
        championOfMostWins();
        victorsOverAll();
        treatyOfRests();
        escortsWhoReach();
        escortsOneEach();
        escortsWhoMayPress();
        rowOfEscorts();
        loopholeOfThoseWithSteps();
        closedByTheFewest();
        readOfEachLaw();
        awayAtMost();
        forcedBySpeeds();
        forcedAsLongAsRestsLast();
        sidesByTheirSteps();
        behindWhoAreNotHome();
        nextOrchardAhead();
        orchardsAhead();
        lastOfAll();
        evenSides();
        wearyByNeed();
        meetingOfTwo();
        Check.finish("EdgeWayTest");
    }

    private static void duel(LastHome x, int first, int other, int wins, int turns, int deed) {
        String who = "duel of " + first + " with " + other;
        Check.same(who + " wins", x.duel(first, other, 0), wins);
        Check.same(who + " turns", x.duel(first, other, 1), turns);
        Check.same(who + " deed", x.duel(first, other, 2), deed);
    }

    private static Model model(String war) {
        Model y = new Model();
        y.tape = war;
        y.text(0);
        return y;
    }

    private static LastHome withLaw(String war, String law) {
        LastHome x = Check.war(war);
        Check.law(x, law);
        x.law(0);
        return x;
    }

    /** Who has no STEPS to go first has lost; neither at 0: from 1 to 20 STEPS. */
    private static void duelByGoingAlone() {
        for (int mine = 0; mine <= 20; mine++) {
            for (int yours = 0; yours <= 20; yours++) {
                LastHome x = Check.war("md" + mine + ";ms1d" + yours);
                if (mine == 0 || yours == 0) {
                    duel(x, 0, 1, Check.NONE, Check.NONE, Check.NONE);
                    Check.same("treaty", x.treaty(0, 1), Check.NONE);
                } else {
                    duel(x, 0, 1, mine > yours ? 1 : 0, mine > yours ? 2 * yours : 2 * mine - 1, 0);
                    Check.same("treaty", x.treaty(0, 1), 0);
                }
            }
        }
    }

    /** PRESSES the other (with a REST above 0): at 0 at once if the SPEED is not below the STEPS. */
    private static void duelByOnePress() {
        for (int speed = 1; speed <= 5; speed++) {
            for (int far = 1; far <= 7; far++) {
                String war = "md9v" + speed + ";ms1d" + far + ";ok9x1";
                LastHome x = Check.war(war);
                Model y = model(war);
                if (far <= speed) {
                    duel(x, 0, 1, 1, 1, 2);
                } else {
                    duel(x, 0, 1, y.duel(0, 1, 0), y.duel(0, 1, 1), y.duel(0, 1, 2));
                    Check.same("not at once", x.duel(0, 1, 1) > 1, true);
                }
                duel(Check.war("md9v" + speed + ";ms1d" + far + ";ok10x9;ok20x9"), 0, 1, 1, 2 * far, 0);
            }
        }
        LastHome both = Check.war("md1;ms1d1;ok1x1");
        duel(both, 0, 1, 1, 1, 2);
        duel(both, 1, 0, 1, 1, 2);
    }

    /** STAYS: a turn more; who wins as soon, who loses as late as can be; of several deeds the lowest. */
    private static void duelByStaying() {
        duel(Check.war("md1;ms1d2;ok1x1"), 0, 1, 0, 3, 1);
        duel(Check.war("md1;ms1d20;ok1x9"), 0, 1, 0, 19, 1);
        duel(Check.war("md1;ms1d20;ok1x1"), 0, 1, 0, 3, 1);
        // All three deeds lose in two turns; GO is the lowest.
        duel(Check.war("md2;ms1d20v5;ok2x1;ok20x9;ok19x9"), 0, 1, 0, 2, 0);
        // GO loses at once, STAY and PRESS in two turns.
        duel(Check.war("md1;ms1d20v5;ok1x1;ok20x9;ok19x9"), 0, 1, 0, 2, 1);
        // To PRESS him out of his ORCHARD is the later end: he comes no sooner than by going.
        duel(Check.war("md1;ms1d20v5;ok1x1;ok20x9"), 0, 1, 0, 3, 2);
        duel(Check.war("md3v1;ms1d1v1;ok3x5"), 0, 1, 1, 1, 2);
    }

    /** Of whatever SIDE, as they are; by STEPS alone, nobody else matters; whatever is ALLIED. */
    private static void duelAsTheyAre() {
        LastHome x = Check.war("md4v2b1;md3v1;ms1d4v2;ms1d3v1;o;ok4x1;wg0");
        LastHome y = Check.war("md4v2b1;md3v1;ms1d4v2;ms1d3v1;ms1d9;md9;md0;o;ok4x1;wg1");
        Check.law(y, "y:1");
        y.law(0);
        for (int what = 0; what < 3; what++) {
            Check.same("of one SIDE", x.duel(0, 1, what), x.duel(0, 3, what));
            Check.same("of one SIDE", x.duel(1, 0, what), x.duel(3, 2, what));
            Check.same("others, ALLIED, HOME", y.duel(0, 1, what), x.duel(0, 1, what));
            Check.same("others, ALLIED, HOME", y.duel(3, 2, what), x.duel(3, 2, what));
        }
        int ahead = x.duel(1, 2, 1);
        x.go(3);
        Check.same("the STEPS of another do not matter", x.duel(1, 2, 1), ahead);
        LastHome z = Check.war("md1;ms1d9;md9;ok1x2");
        duel(z, 0, 1, 0, 5, 1);
        z.stay(0);
        duel(z, 0, 1, 0, 3, 1);
        z.evening();
        duel(z, 0, 1, 0, 3, 1);
        z.stay(0);
        duel(z, 0, 1, 0, 1, 0);
        z.undo();
        duel(z, 0, 1, 0, 3, 1);
        LastHome over = Check.war("md2;md1;ms1d0");
        duel(over, 0, 1, 1, 2, 0);
    }

    /** Small WARS of all sorts against a slow way. */
    private static void duelsOfAllSorts() {
        String[] orchards = {"", ";ok1x1", ";ok2x2", ";ok1x2;ok2x1", ";ok3x9;ok1x1", ";ok4x1;ok2x9;ok3x1"};
        int[] speeds = {1, 2, 3, 5};
        for (String some : orchards) {
            for (int mine = 1; mine <= 4; mine++) {
                for (int yours = 1; yours <= 4; yours++) {
                    for (int v : speeds) {
                        for (int w : speeds) {
                            String war = "md" + mine + "v" + v + ";ms1d" + yours + "v" + w + some;
                            LastHome x = Check.war(war);
                            Model y = model(war);
                            duel(x, 0, 1, y.duel(0, 1, 0), y.duel(0, 1, 1), y.duel(0, 1, 2));
                            Check.same("treaty " + war, x.treaty(0, 1), y.treaty(0, 1));
                        }
                    }
                }
            }
        }
    }

    /** CHAMPION: the MAN (with STEPS to go, of several the lowest) who wins most DUELS. NONE: nobody. */
    private static void championOfMostWins() {
        Check.same("more wins", Check.war("md2;md4;md3;ms1d1;ms1d2;ms1d3").champion(0), 1);
        Check.same("of several the lowest", Check.war("md2;md9;md8;ms1d1;ms1d2;ms1d3").champion(0), 1);
        Check.same("none wins: the lowest", Check.war("md2;md1;ms1d9;ms1d9").champion(0), 0);
        Check.same("without STEPS he is none", Check.war("md0;md1;ms1d9").champion(0), 1);
        Check.same("foes without STEPS do not count", Check.war("md2;md3;ms1d0;ms1d2").champion(0), 1);
        Check.same("no foe has STEPS", Check.war("md0;md3;md9;ms1d0").champion(0), 1);
        Check.same("nobody", Check.war("md0;md0;ms1d3").champion(0), Check.NONE);
        Check.same("the only one", Check.war("md0;md0;ms1d3").champion(1), 2);
        Check.same("in turn first", Check.war("md3;ms1d3;md4;ms1d4").champion(1), 3);
        LastHome x = Check.war("md3;md4;ms1d3;ms1d9;ok4x1");
        x.go(1);
        Check.same("as they are", x.champion(0), 0);
        Check.same("who is HOME may be one", withLaw("md3b1;md2;ms1d2;ms1d1", "y:b").champion(0), 0);
    }

    /** VICTORS: win DUELS with all MEN of the other SIDE who have STEPS to go (there must be one). */
    private static void victorsOverAll() {
        Check.same("all but one", Check.war("md3;md4;md5;ms1d3;ms1d1").victors(0), 6);
        Check.same("none", Check.war("md3;md4;ms1d4;ms1d1").victors(0), 0);
        Check.same("foes without STEPS do not count", Check.war("md3;md4;ms1d0;ms1d2").victors(0), 3);
        Check.same("there must be one", Check.war("md3;md4;ms1d0").victors(0), 0);
        Check.same("without STEPS he is none", Check.war("md0;md3;ms1d2").victors(0), 2);
        Check.same("nobody with STEPS", Check.war("md0;ms1d2").victors(0), 0);
        Check.same("seven", Check.war("ms1d1;md2;md2;md2;md2;md2;md2;md2").victors(0), 254);
        Check.same("over seven", Check.war("ms1d3;md2;md2;md2;md2;md2;md2;md2").victors(1), 1);
        Check.same("not over seven", Check.war("ms1d3;md2;md2;md2;md2;md2;md2;md3").victors(1), 0);
    }

    /** TREATY: the most DAYS n (0 .. 9; no more than the REST of either), and so with each fewer DAYS, too. */
    private static void treatyOfRests() {
        Check.same("the other has no REST", Check.war("md3;ms1d5;ok3x9").treaty(0, 1), 0);
        Check.same("the first has no REST", Check.war("md5;ms1d3;ok3x9").treaty(0, 1), 0);
        String[] wars = {
            "md3;ms1d3;ok3x1", "md3;ms1d3;ok3x9", "md3;ms1d7;ok3x9;ok7x9", "md3;ms1d7;ok3x9;ok7x2", "md3;ms1d7;ok3x2;ok7x9",
            "md1;ms1d9v5;ok1x9;ok9x9", "md9v5;ms1d1;ok1x9;ok9x9", "md20v5;ms1d20v5;ok20x9;ok10x9", "md20;ms1d19;ok20x9;ok19x9",
            "md12v3;ms1d11v2;ok12x8;ok11x7;ok3x3", "md8v2;ms1d8v3;ok8x6;ok5x5;ok2x2", "md2v1;ms1d2v1;ok2x5"
        };
        boolean[] seen = new boolean[10];
        for (String war : wars) {
            for (int first = 0; first < 2; first++) {
                int got = Check.war(war).treaty(first, 1 - first);
                Check.same("treaty " + war + " of " + first, got, treatyByStays(war, first));
                seen[got] = true;
            }
        }
        Check.same("none was seen", seen[0], true);
        Check.same("nine were seen", seen[9], true);
        LastHome x = Check.war("md1;ms1d20v5;ok1x5;ok20x9");
        Check.same("five of nine", x.treaty(0, 1), treatyByStays("md1;ms1d20v5;ok1x5;ok20x9", 0));
        Check.same("nothing was done by it", x.man(0, 6), 5);
    }

    /** Both STAY, DAY by DAY, as long as it is as it was. */
    private static int treatyByStays(String war, int first) {
        LastHome x = Check.war(war);
        int now = x.duel(first, 1 - first, 0);
        int n = 0;
        while (x.stay(0) != Check.NONE && x.stay(1) != Check.NONE && x.duel(first, 1 - first, 0) == now) {
            n++;
            x.evening();
        }
        return n;
    }

    private static void escorts(String what, LastHome x, int side, int most, int row) {
        Check.same(what + ": escorts", x.escorts(side, 0), most);
        Check.same(what + ": row", x.escorts(side, 1), row);
    }

    /** Who would have no STEPS to go then. */
    private static void escortsWhoReach() {
        for (int speed = 1; speed <= 5; speed++) {
            for (int far = 0; far <= 7; far++) {
                boolean reaches = far >= 1 && far <= speed;
                LastHome x = Check.war("md9v" + speed + ";ms1d" + far + ";ms1d20;ok9x1");
                escorts("SPEED " + speed + " STEPS " + far, x, 0, reaches ? 1 : 0, reaches ? 1 : 9);
                LastHome y = withLaw("md9v" + speed + ";ms1d" + far + ";ms1d20;ok9x1", "y:0");
                escorts("not HOME, SPEED " + speed + " STEPS " + far, y, 0, reaches ? 1 : 0, reaches ? 1 : 9);
            }
        }
    }

    /** Each PRESSES one at most (each is PRESSED by one at most): the most such. */
    private static void escortsOneEach() {
        escorts("two for one", Check.war("md3;md3;ms1d1;ms1d9;o"), 0, 1, 29);
        escorts("one for two", Check.war("md3;ms1d1;ms1d1;o"), 0, 1, 1);
        escorts("two for two", Check.war("md3;md3;ms1d1;ms1d1;o"), 0, 2, 23);
        escorts("the second reaches one alone", Check.war("md3v2;md3;ms1d1;ms1d2;o"), 0, 2, 32);
        escorts("the first reaches none", Check.war("md3;md3v5;ms1d4;ms1d9;o"), 0, 1, 92);
        escorts("three in a ring", Check.war("md3v3;md3v2;md3v1;ms1d1;ms1d2;ms1d3;o"), 0, 3, 543);
        escorts("the least with so many", Check.war("md3v3;md3v3;md3v1;ms1d1;ms1d2;ms1d3;o"), 0, 3, 453);
        escorts("not all can", Check.war("md3;md3;md3v5;ms1d1;ms1d4;ms1d5;o"), 0, 2, 394);
    }

    /** MEN of it who are not HOME, with a REST; one of the other SIDE who is not HOME. */
    private static void escortsWhoMayPress() {
        escorts("nobody has a REST", Check.war("md4;ms1d1;o"), 0, 0, 0);
        escorts("nobody reaches", Check.war("md3;md3;ms1d2;o"), 0, 0, 99);
        escorts("not his own SIDE, though ALLIED", Check.war("md3v5;md1;ms1d9;o;wg1"), 0, 0, 9);
        escorts("an escort who is HOME is none", withLaw("md3v5b1;md3v5;ms1d2;o", "y:b"), 0, 1, 2);
        escorts("all escorts are HOME", withLaw("md3v5b1;md4;ms1d2;o", "y:b"), 0, 0, 0);
        escorts("one who is HOME is not PRESSED", withLaw("md3v5;ms1d2b1;ms1d3;o", "y:b"), 0, 1, 2);
        escorts("all of the other SIDE are HOME", withLaw("md3v5;ms1d2b1;o", "y:b"), 0, 0, 9);
        LastHome x = Check.war("md3v5;ms1d2;ms1d9;ok3x1");
        escorts("with a REST", x, 0, 1, 1);
        x.stay(0);
        escorts("without it", x, 0, 0, 0);
        x.undo();
        x.press(0, 1);
        escorts("behind it", x, 0, 0, 0);
    }

    /** The row: digits by numbers; 9: nobody; 0 without anybody. */
    private static void rowOfEscorts() {
        escorts("seven for one", Check.war("md3;md3;md3;md3;md3;md3;md3;ms1d1;o"), 0, 1, 7999999);
        escorts("seven for none", Check.war("md3;md3;md3;md3;md3;md3;md3;ms1d2;o"), 0, 0, 9999999);
        escorts("one for seven", Check.war("md1;md1;md1;md1;md1;md1;md1;ms1d3;o"), 1, 1, 0);
        escorts("four for four", Check.war("md3v3;md3v3;md3v3;md3v3;ms1d3;ms1d3;ms1d3;ms1d3;o"), 0, 4, 4567);
        escorts("the other four", Check.war("md3v3;md3v3;md3v3;md3v3;ms1d3v3;ms1d3v3;ms1d3v3;ms1d3v3;o"), 1, 4, 123);
        escorts("by numbers, whoever stands between", Check.war("md3;ms1d1;md4;md3;ms1d1;o"), 0, 2, 14);
        escorts("the last of several is left", Check.war("md3v2;ms1d1;md3v1;o"), 0, 1, 19);
    }

    /** LOOPHOLE: MEN (bits) with STEPS to go who are HOME by it. NONE: no such LAW, no WAR. */
    private static void loopholeOfThoseWithSteps() {
        LastHome x = Check.war("md0;md1;md20;ms1d0;ms1d1;ms1d2;ms1d3;ms1d4");
        Check.law(x, "y:1");
        Check.law(x, "y:0");
        Check.law(x, "y:d=0?1");
        Check.law(x, "y:s");
        int[] due = {Check.NONE, 246, 0, 0, 240, Check.NONE};
        for (int l = -1; l <= 4; l++) {
            Check.same("loophole " + l, x.loophole(l), due[l + 1]);
        }
        x.law(1);
        Check.same("whichever holds", x.loophole(0), 246);
        LastHome all = Check.war("m;m;m;m;m;m;m;ms1");
        Check.law(all, "y:1");
        Check.same("all eight", all.loophole(0), 255);
        Check.same("behind the latest LAW", all.loophole(1), Check.NONE);
    }

    private static int closed(String war, String... laws) {
        LastHome x = Check.war(war);
        for (String law : laws) {
            Check.law(x, law);
        }
        return x.closed();
    }

    /** CLOSED: the fewest LAWS (bits; of several the least; at least one). NONE: not by all, no LAW, no WAR. */
    private static void closedByTheFewest() {
        String war = "mn0;mn1;mn2;ms1n3";
        String[] but = {"y:n=0?0;y:1", "y:n=1?0;y:1", "y:n=2?0;y:1", "y:n=3?0;y:1"};
        Check.same("no LAW", closed(war), Check.NONE);
        Check.same("one that closes", closed(war, "y:0"), 1);
        Check.same("one that does not", closed(war, "y:1"), Check.NONE);
        Check.same("the least of several", closed(war, "y:1", "y:0", "y:0"), 2);
        Check.same("one rather than two", closed(war, "y:n<2?1", "y:n>1?1", "y:0"), 4);
        Check.same("two", closed(war, "y:n<2?1", "y:n>1?1"), 3);
        Check.same("the least two", closed(war, "y:1", "y:n<2?1", "y:n>1?1", "y:n<1?1"), 6);
        Check.same("two rather than three", closed(war, "y:n<3?1", "y:n>0?1", "y:n=1?1", "y:n=2?1"), 12);
        Check.same("all four", closed(war, but), 15);
        Check.same("three of them do not", closed(war, but[0], but[1], but[2]), Check.NONE);
        Check.same("who has no STEPS does not count", closed("mn0;mn1;mn2d0;ms1n3d0", but), 3);
        Check.same("at least one, though nobody has STEPS", closed("md0;ms1d0", "y:1", "y:1"), 1);
        LastHome x = new LastHome();
        Check.law(x, "y:0");
        Check.same("no WAR", x.closed(), Check.NONE);
    }

    /** READ: LAWS (bits) by which a MAN is HOME. */
    private static void readOfEachLaw() {
        LastHome x = Check.war("md0n9;ms1d5");
        Check.same("no LAW", x.reads(0), 0);
        Check.law(x, "y:n-8");
        Check.law(x, "y:s");
        Check.law(x, "y:d=0|d=5?1");
        Check.law(x, "y:1");
        Check.same("MAN 0, without STEPS, too", x.reads(0), 13);
        Check.same("MAN 1", x.reads(1), 14);
        Check.same("MAN 2", x.reads(2), Check.NONE);
        Check.same("MAN -1", x.reads(-1), Check.NONE);
    }

    /** AWAY: STEPS and RESTS, those of ORCHARDS ahead, too. */
    private static void awayAtMost() {
        LastHome x = Check.war("md0;md1;md2;ms1d3;ms1d20;ok2x4;ok1x3;ok20x9;ok19x9;ok18x9;ok17x9");
        int[] due = {0, 4, 2 + 4 + 3, 3 + 4 + 3, 20 + 9 * 4 + 7};
        for (int m = 0; m < due.length; m++) {
            Check.same("away " + m, x.away(m), due[m]);
        }
        x.stay(2);
        Check.same("a REST less, not the DAYS again", x.away(2), 8);
        x.evening();
        x.go(2);
        Check.same("at the next one", x.away(2), 4);
        LastHome most = Check.war("md20;ms1;ok20x9;ok19x9;ok18x9;ok17x9;ok16x9;ok15x9");
        Check.same("the most there is", most.away(0), 74);
        Check.same("the one of SIDE 1 has none ahead", most.away(1), 6);
    }

    /** FORCED: all of the other SIDE who have a REST now PRESS him, each once on each DAY, ahead of his own STEP. */
    private static void forcedBySpeeds() {
        for (int speed = 1; speed <= 5; speed++) {
            for (int far = 0; far <= 20; far++) {
                if (far == 19) {
                    continue;
                }
                LastHome x = Check.war("md" + far + ";ms1d19v" + speed + ";ok19x9");
                int aDay = speed + 1;
                int left = Math.max(0, far - 9 * aDay);
                int due = left > 0 ? 9 + left : (far + aDay - 1) / aDay;
                Check.same("STEPS " + far + " by SPEED " + speed, x.forced(0), due);
                Check.same("without a REST", Check.war("md" + far + ";ms1d19v" + speed).forced(0), far);
            }
        }
        LastHome all = Check.war("md20;ms1d3v5;ms1d3v5;ms1d3v5;ms1d3v4;o");
        Check.same("five less one", all.forced(0), 1);
        LastHome few = Check.war("md20;ms1d3v5;ms1d3v5;ms1d3v5;ms1d3v3;o");
        Check.same("one STEP is left", few.forced(0), 2);
        Check.same("not his own SIDE, though ALLIED", Check.war("md9;md3v5;ms1;o;wg1").forced(0), 9);
        LastHome eight = Check.war("md3v4;ms1d20;ms1d20;ms1d7;md3v1;md3v1;md3v1;md3v3;o");
        int[] due = {3, 2, 2, 1, 3, 3, 3, 3};
        for (int m = 0; m < 8; m++) {
            Check.same("of eight, MAN " + m, eight.forced(m), due[m]);
        }
        Check.same("by MAN 0 alone", Check.war("md3v4;ms1d9;o").forced(1), 2);
        Check.same("of SIDE 1, too: 1 + 5 twice", Check.war("ms1d9;md3v5;ms1d3v5;o").forced(0), 2);
    }

    /** As long as his REST now lasts (none comes to another ORCHARD). */
    private static void forcedAsLongAsRestsLast() {
        for (int days = 1; days <= 9; days++) {
            LastHome x = Check.war("md20;ms1d3;ok3x" + days + ";ok2x9");
            Check.same("REST " + days, x.forced(0), 20 - days);
            x.stay(1);
            Check.same("REST now " + (days - 1), x.forced(0), 20 - (days - 1));
        }
        LastHome two = Check.war("md20;ms1d3v5;ms1d4v2;ok3x1;ok4x3");
        // 1 + 5 + 2, then 1 + 2 twice, then 1 six times.
        Check.same("one lasts longer", two.forced(0), 3 + 6);
        Check.same("a REST of his own does not help", Check.war("md3;ms1d4v2;ok3x9;ok4x9").forced(0), 1);
        Check.same("who is at 0", Check.war("md0;ms1d3v5;o").forced(0), 0);
    }

    /** SOONEST: the greatest STEPS; PONY: the MAN whose STEPS are the most (of several the lowest). */
    private static void sidesByTheirSteps() {
        LastHome x = Check.war("md4;ms1d20;md7;ms1d19;md7;ms1d20");
        Check.same("soonest 0", x.soonest(0), 7);
        Check.same("soonest 1", x.soonest(1), 20);
        Check.same("pony 0: of several the lowest", x.pony(0), 2);
        Check.same("pony 1: of several the lowest", x.pony(1), 1);
        x.go(2);
        Check.same("pony 0 behind a deed", x.pony(0), 4);
        Check.same("soonest 0 behind it", x.soonest(0), 7);
        x.go(4);
        Check.same("soonest 0 behind two", x.soonest(0), 6);
        LastHome y = Check.war("md0;md0;ms1d0");
        Check.same("soonest of none", y.soonest(0), 0);
        Check.same("pony of those at 0", y.pony(0), 0);
        Check.same("pony of the other", y.pony(1), 2);
    }

    /** BEHIND: who of a SIDE is not HOME (bits). */
    private static void behindWhoAreNotHome() {
        LastHome x = Check.war("md1;md0;md1;md0;ms1d0;ms1d1;ms1d0;ms1d1");
        Check.same("SIDE 0", x.behind(0), 5);
        Check.same("SIDE 1", x.behind(1), 160);
        Check.same("seven", Check.war("ms1;m;m;m;m;m;m;m").behind(0), 254);
        Check.same("one", Check.war("ms1;m;m;m;m;m;m;m").behind(1), 1);
        Check.same("none", Check.war("md0;ms1").behind(0), 0);
        Check.same("by a LAW", withLaw("md0;md3b1;ms1", "y:b").behind(0), 1);
    }

    /** NEXT: the greatest STEP below his; none. */
    private static void nextOrchardAhead() {
        LastHome x = Check.war("md20;md19;md5;md4;md3;ms1d2;ms1d1;ms1d0;ok4;ok1;ok19;ok3");
        int[] due = {2, 0, 0, 3, 1, 1, Check.NONE, Check.NONE};
        for (int m = 0; m < due.length; m++) {
            Check.same("next " + m, x.next(m), due[m]);
        }
        Check.same("no ORCHARD", Check.war("m;ms1").next(0), Check.NONE);
        x.go(3);
        Check.same("as he is now", x.next(3), 1);
    }

    /** ORCHARDS AHEAD (bits): at STEPS below his. */
    private static void orchardsAhead() {
        LastHome x = Check.war("md20;md19;md5;md4;md3;ms1d2;ms1d1;ms1d0;ok4;ok1;ok19;ok3;ok20;ok18");
        int[] due = {47, 43, 11, 10, 2, 2, 0, 0};
        for (int m = 0; m < due.length; m++) {
            Check.same("ahead " + m, x.ahead(m), due[m]);
        }
        Check.same("all six", Check.war("md20;ms1;ok1;ok2;ok3;ok4;ok5;ok6").ahead(0), 63);
        Check.same("none", Check.war("md20;ms1;ok20").ahead(0), 0);
    }

    /** LAST: the MAN who would be at 0 last (of several the lowest). NONE: no WAR. */
    private static void lastOfAll() {
        Check.same("of both SIDES", Check.war("md4;ms1d5;md3").last(), 1);
        Check.same("of several the lowest", Check.war("md4;md5;ms1d5").last(), 1);
        Check.same("all at 0", Check.war("md0;ms1d0").last(), 0);
        Check.same("MAN 7", Check.war("m;m;m;m;m;m;m;ms1d7").last(), 7);
        Check.same("RESTS do not matter", Check.war("md4;ms1d5;ok4x9").last(), 1);
        Check.same("nor who is HOME", withLaw("md9b1;md3;ms1d5", "y:b").last(), 0);
    }

    /** EVEN: whether both SIDES have as many STEPS in all. */
    private static void evenSides() {
        Check.same("alike", Check.war("md3;md4;ms1d7").even(), 1);
        Check.same("one less", Check.war("md3;md4;ms1d6").even(), 0);
        Check.same("one more", Check.war("md3;md4;ms1d8").even(), 0);
        Check.same("none", Check.war("md0;ms1d0").even(), 1);
        Check.same("the most", Check.war("md20;md20;md20;md20;ms1d20;ms1d20;ms1d20;ms1d20").even(), 1);
        LastHome x = Check.war("md3;ms1d4");
        x.go(1);
        Check.same("as they are now", x.even(), 1);
    }

    /** WEARY: of MEN who are not HOME the one with the greatest NEED (of several the lowest). NONE: all are HOME. */
    private static void wearyByNeed() {
        Check.same("the greatest", Check.war("mn3;ms1n9;mn8").weary(), 1);
        Check.same("of several the lowest", Check.war("mn3;mn9;ms1n9").weary(), 1);
        Check.same("not who is HOME", Check.war("mn3;ms1n9d0;ms1n2").weary(), 0);
        Check.same("NEED 0", Check.war("mn0;ms1n0").weary(), 0);
        Check.same("NEED 0, the other is HOME", Check.war("mn9d0;ms1n0").weary(), 1);
        Check.same("all are HOME", Check.war("md0;ms1d0").weary(), Check.NONE);
        Check.same("by a LAW", withLaw("mn9b1;ms1n1;mn5", "y:b").weary(), 2);
        Check.same("all by a LAW", withLaw("mn9b1;ms1n1b1", "y:b").weary(), Check.NONE);
    }

    /** MEETING: the fewest DAYS behind which both have as many STEPS. NONE: no such MEN. */
    private static void meetingOfTwo() {
        for (int one = 0; one <= 20; one++) {
            for (int other = 0; other <= 20; other += 4) {
                LastHome x = Check.war("md" + one + ";ms1d" + other);
                Check.same("meeting", x.meeting(0, 1), Math.abs(one - other));
                Check.same("meeting the other way", x.meeting(1, 0), Math.abs(one - other));
                Check.same("meeting of one", x.meeting(0, 0), 0);
            }
        }
        Check.same("of one SIDE", Check.war("md9;md2;ms1").meeting(0, 1), 7);
    }
}
