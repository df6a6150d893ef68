/** Promises 6, 9 to 16, 44 and 45: deeds, EVENINGS, MARCHES, the LOG, UNDOING and IMAGES. */
public final class DeedTest {
    private DeedTest() {
    }

    public static void main(String[] args) {
        checkGo();
        checkStay();
        checkPress();
        checkAllied();
        checkWon();
        checkEvening();
        checkMarchRefused();
        checkMarch();
        checkLastDay();
        checkUndo();
        checkUndoOfMarch();
        checkLog();
        checkImage();
        Check.finish("DeedTest");
    }

    private static void checkGo() {
        LastHome x = Check.war("md2;md0;ms1d2;ok1x3");
        Check.same("no MAN 3", x.go(3), Check.NONE);
        Check.same("no MAN -1", x.go(-1), Check.NONE);
        Check.same("HOME", x.go(1), Check.NONE);
        Check.same("GOES", x.go(0), 1);
        Check.same("did a deed", x.man(0, 7), 1);
        Check.same("REST of that STEP", x.man(0, 6), 3);
        Check.same("once a DAY", x.go(0), Check.NONE);
        Check.same("nor another deed", x.stay(0), Check.NONE);
        Check.same("nor to PRESS", x.press(0, 2), Check.NONE);
        x.evening();
        Check.same("may again", x.man(0, 7), 0);
        Check.same("GOES to 0", x.go(0), 0);
        Check.same("SIDE 1 has WON", x.won(), 1);
        Check.same("it is over", x.go(2), Check.NONE);
        LastHome y = Check.war("md0b0;md3;ms1d2;ok3");
        Check.law(y, "y:b");
        y.law(0);
        Check.same("not HOME but no STEPS to go", y.go(0), Check.NONE);
        Check.same("no REST at 0", y.stay(0), Check.NONE);
        Check.same("none to PRESS with", y.press(0, 2), Check.NONE);
    }

    private static void checkStay() {
        LastHome x = Check.war("md3;md4;ms1d0;ms1d5;o");
        Check.same("no MAN", x.stay(4), Check.NONE);
        Check.same("no REST", x.stay(1), Check.NONE);
        Check.same("HOME", x.stay(2), Check.NONE);
        Check.same("a REST less", x.stay(0), 1);
        Check.same("once a DAY", x.stay(0), Check.NONE);
        Check.same("STEPS as before", x.man(0, 1), 3);
        x.evening();
        Check.same("who STAYED does not GO", x.man(0, 1), 3);
        Check.same("the other came to the ORCHARD", x.man(1, 6), 2);
        Check.same("the last REST", x.stay(0), 0);
        x.evening();
        Check.same("no REST more", x.stay(0), Check.NONE);
        x.evening();
        Check.same("so he GOES", x.man(0, 1), 2);
        LastHome y = Check.war("md3;ms1d0;o");
        Check.same("it is over", y.stay(0), Check.NONE);
    }

    private static void checkPress() {
        LastHome x = Check.war("md3v4;md2;ms1d7;ms1d0;ms1d3;o");
        Check.same("no MAN 5", x.press(0, 5), Check.NONE);
        Check.same("no MAN -1", x.press(-1, 2), Check.NONE);
        Check.same("alike", x.press(0, 0), Check.NONE);
        Check.same("not the other SIDE", x.press(0, 1), Check.NONE);
        Check.same("the other one is HOME", x.press(0, 3), Check.NONE);
        Check.same("no REST", x.press(1, 2), Check.NONE);
        Check.same("HOME himself", x.press(3, 0), Check.NONE);
        Check.same("PRESSES", x.press(0, 2), 3);
        Check.same("a REST less", x.man(0, 6), 1);
        Check.same("the REST of the STEP he came to", x.man(2, 6), 2);
        Check.same("who was PRESSED did no deed", x.man(2, 7), 0);
        Check.same("did a deed", x.press(0, 4), Check.NONE);
        x.evening();
        Check.same("to 0 at most", x.press(0, 2), 0);
        Check.same("no REST at 0", x.man(2, 6), 0);
        Check.same("MAN 4 is left", x.behind(1), 16);
        LastHome y = Check.war("md3;ms1d0;ms1d2;o");
        Check.law(y, "y:b");
        y.law(0);
        Check.same("no STEPS to go, though not HOME", y.press(0, 1), Check.NONE);
        Check.same("the other has", y.press(0, 2), 1);
        LastHome z = Check.war("md3;ms1d0;o");
        Check.same("it is over", z.press(0, 1), Check.NONE);
    }

    private static void checkAllied() {
        LastHome x = Check.war("md3v2;md5;ms1d9;o;wg1");
        Check.same("of any SIDE", x.press(0, 1), 3);
        Check.same("the other SIDE, too", x.press(1, 2), 8);
        Check.same("alike even so", x.press(0, 0), Check.NONE);
    }

    private static void checkWon() {
        Check.same("both", Check.war("md0;ms1d0").won(), 2);
        Check.same("SIDE 0", Check.war("md1;ms1d0").won(), 0);
        Check.same("SIDE 1", Check.war("md0;ms1d1").won(), 1);
        LastHome x = Check.war("md1;md0;ms1d1;ms1d0");
        Check.same("not over", x.won(), Check.NONE);
        Check.law(x, "y:y");
        Check.law(x, "y:b");
        x.law(0);
        Check.same("not by the DAY yet", x.won(), Check.NONE);
        x.evening();
        Check.same("by the DAY", x.won(), 2);
        Check.same("nothing more", x.evening(), Check.NONE);
        x.law(1);
        Check.same("another LAW", x.won(), Check.NONE);
        Check.same("goes on", x.evening(), 2);
    }

    private static void checkEvening() {
        LastHome x = Check.war("md1;ms1d2;ms1d4;ok4x1");
        Check.same("the DAY", x.evening(), 1);
        Check.same("over behind MAN 0", x.won(), 1);
        Check.same("none later GOES", x.man(1, 1), 2);
        Check.same("none later GOES", x.man(2, 1), 4);
        Check.same("no DAY more", x.evening(), Check.NONE);
        Check.same("the DAY stays", x.count(5), 1);
        LastHome y = Check.war("md5b1;md5;ms1d5;ok5x9");
        Check.law(y, "y:b");
        y.law(0);
        y.stay(2);
        Check.same("the DAY", y.evening(), 1);
        Check.same("who is HOME stays", y.man(0, 1), 5);
        Check.same("who did nothing GOES", y.man(1, 1), 4);
        Check.same("who did a deed does not", y.man(2, 1), 5);
        Check.same("REST is as it was", y.man(2, 6), 8);
        for (int i = 0; i < 6; i++) {
            y.evening();
        }
        Check.same("at 0 he stays", y.man(1, 1), 0);
        Check.same("not HOME at 0 by this LAW", y.count(8), 1);
    }

    private static void checkMarchRefused() {
        LastHome x = Check.war("m;ms1");
        Check.same("0 DAYS", x.march(0, 1), Check.NONE);
        Check.same("-1 DAYS", x.march(-1, 1), Check.NONE);
        Check.same("61 DAYS", x.march(61, 1), Check.NONE);
        Check.same("no ACT", x.count(11), 0);
        Check.same("over", Check.war("md0;ms1").march(1, 1), Check.NONE);
        Check.same("no WAR", new LastHome().march(1, 1), Check.NONE);
    }

    private static int draw(long[] x, int of) {
        x[0] = x[0] * 6364136223846793005L + 1442695040888963407L;
        return (int) ((x[0] >>> 33) % of);
    }

    /** Draws told by hand for one DAY of three MEN, so that each kind of deed is seen. */
    private static void checkMarch() {
        int[] seen = new int[4];
        for (long seed = -40; seed < 40; seed++) {
            LastHome x = Check.war("md3v2i5;md0;ms1d9v3;ms1d5;o;ok9x1");
            x.go(3);
            long[] chance = {seed};
            int[] steps = {3, 0, 9, 4};
            int[] rests = {2, 0, 1, 0};
            int kind = draw(chance, 10) < 5 ? 3 : draw(chance, 3);
            seen[kind]++;
            if (kind == 0) {
                steps[0]--;
                rests[0] = 0;
            } else if (kind != 3) {
                rests[0]--;
            }
            if (kind == 2) {
                steps[2] -= 2;
                rests[2] = 0;
            }
            draw(chance, 10);
            int second = draw(chance, 3);
            if (second == 0) {
                steps[2]--;
                rests[2] = 0;
            } else if (rests[2] > 0) {
                rests[2]--;
                steps[0] = second == 2 ? 0 : steps[0];
                rests[0] = second == 2 ? 0 : rests[0];
            }
            Check.same("the DAY", x.march(1, seed), 1);
            for (int m = 0; m < 4; m++) {
                Check.same("STEPS of " + m + " by seed " + seed, x.man(m, 1), steps[m]);
                Check.same("REST of " + m + " by seed " + seed, x.man(m, 6), rests[m]);
                Check.same("may do a deed", x.man(m, 7), 0);
            }
            Check.same("two ACTS", x.count(11), 2);
            Check.same("EVENING last", x.log(0, 0), 3);
        }
        for (int kind = 0; kind < 4; kind++) {
            Check.same("kind " + kind + " was seen", seen[kind] > 0, true);
        }
        LastHome y = Check.war("md2;ms1d2");
        int day = y.march(60, 12345L);
        Check.same("it ends when it is over", y.won() != Check.NONE && day < 60, true);
        Check.same("an ACT each DAY", y.count(11), day);
        Check.same("nothing more", y.march(1, 12345L), Check.NONE);
    }

    private static void checkLastDay() {
        LastHome x = Check.war("md20;ms1d20");
        Check.law(x, "y:0");
        x.law(0);
        for (int i = 0; i < 166; i++) {
            x.march(60, i);
        }
        Check.same("near the last DAY", x.count(5), 9960);
        Check.same("beyond", x.march(40, 1), Check.NONE);
        Check.same("beyond", x.march(60, 1), Check.NONE);
        Check.same("nothing happened", x.count(5), 9960);
        Check.same("to the last one", x.march(38, 1), 9998);
        Check.same("two more is beyond", x.march(2, 1), Check.NONE);
        Check.same("the last DAY", x.evening(), 9999);
        Check.same("none then", x.evening(), Check.NONE);
        Check.same("none then", x.march(1, 1), Check.NONE);
        Check.same("forty ACTS", x.count(11), 40);
        Check.same("sixty lines", x.count(10), 60);
        Check.same("UNDO", x.undo(), 39);
        Check.same("and again", x.march(1, 1), 9999);
        x.undo();
        x.undo();
        Check.same("two, too", x.march(2, 1), 9999);
    }

    private static void checkUndo() {
        LastHome x = Check.war("md3v2;md5;ms1d8;o;ok8x9");
        Check.same("none", x.undo(), Check.NONE);
        x.press(0, 2);
        x.stay(1);
        x.go(1);
        x.evening();
        Check.same("acts", x.count(11), 3);
        Check.same("evening UNDONE", x.undo(), 2);
        Check.same("the DAY", x.count(5), 0);
        Check.same("deeds are there again", x.man(0, 7), 1);
        Check.same("and who did none", x.man(2, 7), 0);
        Check.same("the LOG, too", x.log(0, 0), 0);
        Check.same("go UNDONE", x.undo(), 1);
        Check.same("STEPS", x.man(1, 1), 5);
        Check.same("press UNDONE", x.undo(), 0);
        Check.same("STEPS of the other", x.man(2, 1), 8);
        Check.same("REST of the other", x.man(2, 6), 9);
        Check.same("REST", x.man(0, 6), 2);
        Check.same("no LOG", x.count(10), 0);
        Check.same("none", x.undo(), Check.NONE);
        LastHome y = Check.war("md20;ms1d20;ok20x9");
        Check.law(y, "y:0");
        y.law(0);
        for (int i = 0; i < 50; i++) {
            y.evening();
        }
        Check.same("forty at most", y.count(11), 40);
        for (int i = 39; i >= 0; i--) {
            Check.same("left", y.undo(), i);
        }
        Check.same("no more", y.undo(), Check.NONE);
        Check.same("the DAY", y.count(5), 10);
        Check.same("STEPS", y.man(0, 1), 10);
        Check.same("LOG", y.count(10), 10);
        y.law(Check.NONE);
        y.evening();
        y.law(0);
        Check.same("the LAW is no ACT", y.undo(), 0);
        Check.same("it holds", y.count(4), 0);
    }

    private static void checkUndoOfMarch() {
        LastHome x = Check.war("md20v1;md19;ms1d20;ms1d18;ok20x9;ok19x9;ok18x9;wg1");
        Check.law(x, "y:0");
        x.law(0);
        for (int i = 0; i < 30; i++) {
            x.march(1, i);
        }
        int lines = x.count(10);
        int[][] told = new int[60][3];
        for (int i = 0; i < 60; i++) {
            for (int what = 0; what < 3; what++) {
                told[i][what] = x.log(i, what);
            }
        }
        x.march(40, 99);
        for (int i = 0; i < 40; i++) {
            x.undo();
        }
        Check.same("the DAY", x.count(5), 30);
        Check.same("as long as it was", x.count(10), lines);
        for (int i = 0; i < 60; i++) {
            for (int what = 0; what < 3; what++) {
                Check.same("line " + i + " is there again", x.log(i, what), told[i][what]);
            }
        }
    }

    private static void checkLog() {
        LastHome x = Check.war("md3v2;md5;ms1d8;o;ok8x9");
        x.press(0, 2);
        x.go(1);
        x.evening();
        x.stay(0);
        int[][] due = {{1, 0, -1}, {3, -1, -1}, {0, 1, -1}, {2, 0, 2}};
        for (int i = 0; i < due.length; i++) {
            for (int what = 0; what < 3; what++) {
                Check.same("log " + i + " " + what, x.log(i, what), due[i][what]);
            }
        }
        Check.same("log 4", x.log(4, 0), Check.HIDDEN);
        Check.same("log -1", x.log(-1, 0), Check.HIDDEN);
        Check.same("what 3", x.log(0, 3), Check.HIDDEN);
        Check.same("what -1", x.log(0, -1), Check.HIDDEN);
        Check.same("log 60", x.log(60, 0), Check.HIDDEN);
    }

    private static void checkImage() {
        LastHome x = Check.war("md3v2;md5;ms1d8;o;ok8x9");
        Check.same("none", x.back(), Check.NONE);
        x.go(1);
        x.stay(0);
        x.evening();
        x.stay(0);
        Check.same("the DAY", x.image(), 1);
        Check.same("ACTS stay", x.count(11), 4);
        x.go(2);
        x.evening();
        x.evening();
        Check.same("BACK", x.back(), 1);
        Check.same("the DAY", x.count(5), 1);
        Check.same("STEPS", x.man(0, 1), 3);
        Check.same("RESTS", x.man(0, 6), 0);
        Check.same("STEPS of another one", x.man(2, 1), 7);
        Check.same("deeds", x.man(0, 7), 1);
        Check.same("and none", x.man(2, 7), 0);
        Check.same("LOG", x.count(10), 4);
        Check.same("who STAYED was the latest", x.log(0, 0), 1);
        Check.same("EVENING ahead of it", x.log(1, 0), 3);
        Check.same("the first line", x.log(3, 1), 1);
        Check.same("no ACT can be UNDONE", x.count(11), 0);
        Check.same("no ACT can be UNDONE", x.undo(), Check.NONE);
        x.evening();
        Check.same("a new one can", x.undo(), 0);
        Check.same("again BACK", x.back(), 1);
        x.evening();
        Check.same("another IMAGE", x.image(), 2);
        x.evening();
        Check.same("BACK to the latter", x.back(), 2);
        LastHome y = Check.war("md20;ms1d20;ok20x9;ok19x9");
        Check.law(y, "y:0");
        y.law(0);
        y.stay(1);
        y.march(60, 5);
        int[] told = new int[60];
        y.image();
        for (int i = 0; i < 60; i++) {
            told[i] = y.log(i, 0) * 100 + y.log(i, 1) * 10 + y.log(i, 2);
        }
        y.march(60, 6);
        Check.same("BACK", y.back(), 60);
        Check.same("sixty lines", y.count(10), 60);
        for (int i = 0; i < 60; i++) {
            Check.same("line " + i, y.log(i, 0) * 100 + y.log(i, 1) * 10 + y.log(i, 2), told[i]);
        }
    }
}
