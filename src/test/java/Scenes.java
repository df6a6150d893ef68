/** States of an object in which calls are refused; each call makes a new object. */
final class Scenes {
    private Scenes() {
    }

    static LastHome fresh() {
        return new LastHome();
    }

    /** No WAR yet, but LAWS, LETTERS and a TAPE that is a right WAR. */
    static LastHome unbegun() {
        LastHome x = new LastHome();
        Check.law(x, "y:b");
        Check.law(x, "y:d=0?1");
        x.law(1);
        x.letter(4, 1);
        return Check.fed(x, "md2;ms1d4;o");
    }

    /**
     * MAN 0 did a deed and has a REST, 1 has none, 2 is HOME, 3 and 4 (of SIDE 1) have RESTS; MAN 5 (of SIDE 1) is HOME.
     * The TAPE is a right LAW and no right WAR.
     */
    static LastHome midst() {
        LastHome x = Check.war("md3v2;md7n9;md0b1;ms1d9i4;ms1d3v5;ms1d0;o;ok8x9;ok5x1;wp4");
        Check.law(x, "y:b");
        Check.law(x, "y:d=0?1");
        x.law(1);
        x.letter(4, 1);
        x.letter(9, 2);
        x.go(3);
        x.stay(4);
        x.stay(0);
        x.evening();
        x.image();
        x.press(0, 3);
        x.undo();
        x.stay(0);
        x.undo();
        x.press(4, 1);
        x.undo();
        x.go(1);
        x.undo();
        x.stay(3);
        x.undo();
        x.press(3, 0);
        x.undo();
        x.stay(0);
        return Check.fed(x, "y:d<3?1;y:0");
    }

    /** All of SIDE 1 are HOME; the others have STEPS to go and RESTS. */
    static LastHome over() {
        LastHome x = Check.war("md3v2;md4;ms1d1;ms1d0;o;ok4x3;wg1");
        x.evening();
        x.undo();
        x.stay(0);
        x.go(2);
        return Check.fed(x, "md2;");
    }

    /** As many of everything as there may be. */
    static LastHome full() {
        LastHome x = Check.war("md20v5b1n9i8;md20;md20;md20;ms1d20;ms1d20;ms1d20;ms1d20"
            + ";ok20x9;ok19x9;ok18x9;ok17x9;ok16x9;ok15x9;wp9g1");
        for (int l = 0; l < 4; l++) {
            Check.law(x, l == 2 ? "y:b" : "y:0");
        }
        x.law(3);
        for (int i = 0; i < 10; i++) {
            x.letter(20 - i, 3);
        }
        x.march(60, 7);
        x.image();
        x.march(2, 8);
        return Check.fed(x, "y:1" + " ".repeat(237));
    }

    /** DAY 9,999. */
    static LastHome lastDay() {
        LastHome x = Check.war("md20v2;ms1d20;ok20x9");
        Check.law(x, "y:0");
        x.law(0);
        for (int i = 0; i < 166; i++) {
            x.march(60, i);
        }
        x.march(39, 166);
        return x;
    }
}
