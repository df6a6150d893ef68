/** Promises 1 to 5, 7, 8 and 46: the TAPE, the TEXTS with their FAULTS, ORCHARDS, LAWS and counts. */
public final class TextTest {
    private TextTest() {
    }

    public static void main(String[] args) {
        checkNewObject();
        checkFeed();
        checkEnd();
        checkWarFaults();
        checkLawFaults();
        checkText();
        checkItems();
        checkOrchards();
        checkLaws();
        checkWorth();
        checkCounts();
        Check.finish("TextTest");
    }

    private static void checkNewObject() {
        LastHome x = new LastHome();
        int[] due = {0, 0, 0, 0, -1, 0, 0, 0, 0, 0, 0, 0};
        for (int what = 0; what < due.length; what++) {
            Check.same("new count " + what, x.count(what), due[what]);
        }
        Check.same("new won", x.won(), Check.NONE);
        Check.same("new behind", x.behind(0), Check.NONE);
        Check.same("new escorts", x.escorts(0, 0), Check.NONE);
        Check.same("new hurry", x.hurry(0, 0), Check.NONE);
        Check.same("new victors", x.victors(0), Check.NONE);
        Check.same("new soonest", x.soonest(0), Check.NONE);
        Check.same("new pony", x.pony(0), Check.NONE);
        Check.same("new man throws", Check.throwsNoSuchElement(x, 0, 0), true);
        Check.same("new log", x.log(0, 0), Check.HIDDEN);
        Check.same("new orchard", x.orchard(0, 0), Check.NONE);
    }

    private static void checkFeed() {
        LastHome x = new LastHome();
        Check.same("feed of nothing", x.feed(0, 0, 0, 0, 0), 0);
        Check.same("feed of inner zeros", x.feed(0x6d003b00, 0x006d0073, 0x31000000, 0, 0), 5);
        Check.same("m;ms1 is a WAR", x.fault(0), Check.NONE);
        Check.same("high bytes count", x.feed(-1, 0, 0, 0, 0), 9);
        Check.same("a high byte is wrong", x.fault(0), 5);
        x.end(0);
        for (int i = 1; i <= 12; i++) {
            Check.same("twenty more", x.feed(0x20202020, 0x20202020, 0x20202020, 0x20202020, 0x20202020), 20 * i);
        }
        Check.same("240 and nothing", x.feed(0, 0, 0, 0, 0), 240);
        Check.same("241", x.feed(0, 0, 1, 0, 0), Check.NONE);
        x.end(225);
        Check.same("too many by five", x.feed(-1, -1, -1, -1, -1), Check.NONE);
        Check.same("nothing came", x.count(3), 225);
        Check.same("fifteen fit", x.feed(-1, -1, -1, 0, 0x00ffffff), 240);
    }

    private static void checkEnd() {
        LastHome x = Check.fed(new LastHome(), "m;ms1;m");
        Check.same("end -1", x.end(-1), false);
        Check.same("end 8", x.end(8), false);
        Check.same("count 7", x.count(3), 7);
        Check.same("end 7", x.end(7), true);
        Check.same("end 5", x.end(5), true);
        Check.same("count 5", x.count(3), 5);
        Check.same("end 6 is gone", x.end(6), false);
        Check.same("text", x.text(0), 2);
        Check.same("empty then", x.count(3), 0);
        Check.same("end 0", x.end(0), true);
        Check.same("end 1", x.end(1), false);
    }

    private static void warFault(String text, int due) {
        LastHome x = Check.fed(new LastHome(), text);
        Check.same("fault of WAR '" + text + "'", x.fault(0), due);
        Check.same("bytes stay for '" + text + "'", x.count(3), text.length());
        Check.same("text of '" + text + "' refused", x.text(0) == Check.NONE, due != Check.NONE);
        Check.same("bytes behind '" + text + "'", x.count(3), due == Check.NONE ? 0 : text.length());
    }

    private static void checkWarFaults() {
        Check.same("sort 2", new LastHome().fault(2), -2);
        Check.same("sort -1", new LastHome().fault(-1), -2);
        warFault("", 0);
        warFault("   ", 3);
        warFault("m", 1);
        warFault("m;m", 3);
        warFault("ms1;ms1", 7);
        warFault("m;ms1", Check.NONE);
        warFault("ms1;m", Check.NONE);
        warFault("m;ms1;", 6);
        warFault("m;ms1; ", 7);
        warFault(";m", 0);
        warFault("m;;", 2);
        warFault("m,m", 1);
        warFault("M;ms1", 0);
        warFault("md", 2);
        warFault("mdx", 2);
        warFault("md;", 2);
        warFault("md-1", 2);
        warFault("md1 2;ms1", 4);
        warFault("md 1;ms1", Check.NONE);
        warFault("md20;ms1", Check.NONE);
        warFault("md21;ms1", 3);
        warFault("md99", 3);
        warFault("md999", 4);
        warFault("md001", 4);
        warFault("md00;ms01", Check.NONE);
        warFault("ms2", 2);
        warFault("ms10", 3);
        warFault("mv0", 2);
        warFault("mv00", 3);
        warFault("mv05;ms1", Check.NONE);
        warFault("mv6", 2);
        warFault("mb2", 2);
        warFault("mn10", 3);
        warFault("mi10", 3);
        warFault("ms1d2s", 5);
        warFault("mk1", 1);
        warFault("mp1", 1);
        warFault("m;ms1;o", Check.NONE);
        warFault("m;ms1;ok0", 8);
        warFault("m;ms1;ok21", 9);
        warFault("m;ms1;ok20x9", Check.NONE);
        warFault("m;ms1;ox0", 8);
        warFault("m;ms1;ox10", 9);
        warFault("m;ms1;od1", 7);
        warFault("m;ms1;okx", 8);
        warFault("m;ms1;ok1k", 9);
        warFault("o;o;m;ms1", 9);
        warFault("ok4;o;ok4;m;ms1", 15);
        warFault("ok4;o;ok3x2;m;ms1 ", 18);
        warFault("w;m;ms1", Check.NONE);
        warFault("m;w;ms1;w", 8);
        warFault("m;wp9g1;ms1", Check.NONE);
        warFault("m;wp10", 5);
        warFault("m;wg2", 4);
        warFault("m;ws1", 3);
        warFault("m;m;m;m;m;m;m;ms1", Check.NONE);
        warFault("m;m;m;m;m;m;m;ms1;m", 18);
        warFault("m;m;m;m;m;m;m;m", 15);
        warFault("ok1;ok2;ok3;ok4;ok5;ok6;m;ms1", Check.NONE);
        warFault("ok1;ok2;ok3;ok4;ok5;ok6;o", 24);
        warFault("ok1;ok1;ok1;ok1;ok1;ok1;o", 24);
        warFault(" m s 1 d 2 ; m ", Check.NONE);
        warFault("m\t", 1);
    }

    private static void lawFault(String text, int due) {
        LastHome x = Check.fed(new LastHome(), text);
        Check.same("fault of LAW '" + text + "'", x.fault(1), due);
        Check.same("text of '" + text + "'", x.text(1), due == Check.NONE ? 0 : Check.NONE);
        Check.same("bytes behind '" + text + "'", x.count(3), due == Check.NONE ? 0 : text.length());
        Check.same("laws behind '" + text + "'", x.count(2), due == Check.NONE ? 1 : 0);
    }

    private static void checkLawFaults() {
        lawFault("", 0);
        lawFault("y", 1);
        lawFault("y:", 2);
        lawFault("y: ", 3);
        lawFault("d:1", 0);
        lawFault("y;", 1);
        lawFault("y:1", Check.NONE);
        lawFault("y:1;", 4);
        lawFault("y:1;y:d", Check.NONE);
        lawFault("y:1;d", 4);
        lawFault(" y : 1 ; y : d ", Check.NONE);
        lawFault("y:d b", 4);
        lawFault("y:1 2", 4);
        lawFault("y:12345", 6);
        lawFault("y:9999", Check.NONE);
        lawFault("y:0000", Check.NONE);
        lawFault("y:-1", 2);
        lawFault("y:v", 2);
        lawFault("y:d+", 4);
        lawFault("y:d+*", 4);
        lawFault("y:d*b/n+i-y*s", Check.NONE);
        lawFault("y:1?", 3);
        lawFault("y:d=1", 5);
        lawFault("y:d=1;", 5);
        lawFault("y:d=1?", 6);
        lawFault("y:d=1?2", Check.NONE);
        lawFault("y:d=1?2?", 7);
        lawFault("y:d=1?2=", 7);
        lawFault("y:d=1?!", 6);
        lawFault("y:d=1?(", 6);
        lawFault("y:d=1=", 5);
        lawFault("y:d==", 4);
        lawFault("y:d=1&b>0|n<3?2", Check.NONE);
        lawFault("y:d&", 3);
        lawFault("y:d=1&d?", 7);
        lawFault("y:(d=1)?1", Check.NONE);
        lawFault("y:(d=1)=", 7);
        lawFault("y:(d=1)+", 7);
        lawFault("y:(d)", 4);
        lawFault("y:()", 3);
        lawFault("y:(d=1?", 6);
        lawFault("y:(d=1", 6);
        lawFault("y:(d=1)", 7);
        lawFault("y:(d=1);", 7);
        lawFault("y:!d", 4);
        lawFault("y:!d=1?b", Check.NONE);
        lawFault("y:!!(!d=1|b=1)&d=2?b", Check.NONE);
        lawFault("y:[d]", Check.NONE);
        lawFault("y:[d", 4);
        lawFault("y:[d=", 4);
        lawFault("y:[d)", 4);
        lawFault("y:[]", 3);
        lawFault("y:[!", 3);
        lawFault("y:[d]=1?1", Check.NONE);
        lawFault("y:[[[[[[d]]]]]]", Check.NONE);
        lawFault("y:[[[[[[[d", 8);
        lawFault("y:[[[[[[d]]]]]]*[[[[[[d]]]]]]", Check.NONE);
        lawFault("y:!!!!!!d=1?1", Check.NONE);
        lawFault("y:!!!!!!!", 8);
        lawFault("y:!!!!!![", 8);
        lawFault("y:((((((d=1))))))?1", Check.NONE);
        lawFault("y:(((((((", 8);
        lawFault("y:!(!(!([", 8);
        lawFault("y:!d=1&!!!!!!d=1?1", Check.NONE);
        lawFault("y:!d=1&!!!!!!!", 13);
        lawFault("y:d=1?[[[[[[[", 12);
        LastHome x = new LastHome();
        StringBuilder longest = new StringBuilder("y:d");
        for (int i = 0; i < 118; i++) {
            longest.append("+d");
        }
        Check.same("a LAW of 239", Check.law(x, longest.toString()), 0);
        Check.same("a LAW of 240", Check.law(x, longest + " "), 1);
    }

    private static void checkText() {
        LastHome x = Check.war("md2;ms1d0i9;mb1");
        Check.same("sort 2", x.text(2), Check.NONE);
        Check.same("sort -1", x.text(-1), Check.NONE);
        Check.fed(x, "md2;");
        Check.same("a FAULT", x.text(0), Check.NONE);
        Check.same("as before", x.count(0), 3);
        Check.same("bytes as before", x.count(3), 4);
        Check.same("LAW 0", Check.law(x, "y:b"), 0);
        Check.same("LAW 1", Check.law(x, "y:0"), 1);
        Check.same("LAW 2", Check.law(x, "y:d"), 2);
        Check.same("LAW 3", Check.law(x, "y:s"), 3);
        Check.fed(x, "y:1");
        Check.same("a fifth LAW", x.text(1), Check.NONE);
        Check.same("bytes of the fifth stay", x.count(3), 3);
        x.law(1);
        x.evening();
        x.go(0);
        x.letter(1, 1);
        x.image();
        Check.war(x, "md5;ms1");
        int[] due = {2, 0, 4, 0, 1, 0, 6, 0, 0, 0, 0, 0};
        for (int what = 0; what < due.length; what++) {
            Check.same("behind another WAR, count " + what, x.count(what), due[what]);
        }
        Check.same("no IMAGE of this WAR", x.back(), Check.NONE);
        Check.same("nothing to UNDO", x.undo(), Check.NONE);
        Check.same("nobody did a deed", x.man(0, 7), 0);
        LastHome z = Check.war("m;m;m;m;m;m;m;ms1d0");
        Check.same("it is over", z.won(), 0);
        Check.war(z, "m;ms1");
        Check.same("bits of a former WAR are gone", z.count(8), 0);
    }

    private static void checkItems() {
        LastHome x = Check.war("m;ms1d20v5b1n9i8;mi7b0n0v2d0s1;wg1p0");
        int[][] due = {{0, 6, 1, 0, 3, 0, 0, 0, 0}, {1, 20, 5, 1, 9, 8, 0, 0, 0}, {1, 0, 2, 0, 0, 7, 0, 0, 1}};
        for (int m = 0; m < due.length; m++) {
            for (int what = 0; what < 9; what++) {
                Check.same("man " + m + " " + what, x.man(m, what), due[m][what]);
            }
        }
        Check.same("PAY", x.count(6), 0);
        Check.same("ALLIED", x.count(7), 1);
        Check.same("man 3", Check.throwsNoSuchElement(x, 3, 0), true);
        Check.same("man -1", Check.throwsNoSuchElement(x, -1, 0), true);
        Check.same("what 9", Check.throwsNoSuchElement(x, 0, 9), true);
        Check.same("what -1", Check.throwsNoSuchElement(x, 0, -1), true);
        Check.same("least of numbers", Check.throwsNoSuchElement(x, Integer.MIN_VALUE, Integer.MAX_VALUE), true);
    }

    private static void checkOrchards() {
        LastHome x = Check.war("o;m;ok7x9;ms1;ox1k1");
        int[][] due = {{3, 2}, {7, 9}, {1, 1}};
        for (int o = 0; o < due.length; o++) {
            Check.same("orchard step " + o, x.orchard(o, 0), due[o][0]);
            Check.same("orchard days " + o, x.orchard(o, 1), due[o][1]);
            Check.same("orchard 2 of " + o, x.orchard(o, 2), Check.NONE);
            Check.same("orchard -1 of " + o, x.orchard(o, -1), Check.NONE);
        }
        Check.same("orchard 3", x.orchard(3, 0), Check.NONE);
        Check.same("orchard -1", x.orchard(-1, 0), Check.NONE);
        Check.same("orchard 6", x.orchard(6, 1), Check.NONE);
    }

    private static void checkLaws() {
        LastHome x = new LastHome();
        Check.same("no LAW yet", x.law(0), false);
        Check.same("none is fine", x.law(Check.NONE), true);
        Check.law(x, "y:b");
        Check.same("a LAW without a WAR", x.law(0), true);
        Check.same("it holds", x.count(4), 0);
        Check.same("no such one", x.law(1), false);
        Check.same("below NONE", x.law(-2), false);
        Check.same("it still holds", x.count(4), 0);
        Check.war(x, "mb1;m;ms1d0");
        Check.same("HOME by the LAW from the first", x.count(8), 1);
        Check.same("not over", x.won(), Check.NONE);
        x.law(Check.NONE);
        Check.same("HOME without LAW", x.count(8), 4);
        Check.same("over without LAW", x.won(), 0);
        Check.same("none holds", x.count(4), Check.NONE);
    }

    /** Whether MAN 0 (d 7, b 1, n 9, i 2, s 0, DAY 0) is HOME by a LAW. */
    private static void home(String law, boolean due) {
        LastHome x = Check.war("md7b1n9i2;ms1");
        Check.law(x, law);
        Check.same("HOME by " + law, x.reads(0), due ? 1 : 0);
    }

    private static void checkWorth() {
        home("y:1", true);
        home("y:0", false);
        home("y:0-1", false);
        home("y:s", false);
        home("y:y", false);
        home("y:b", true);
        home("y:d-7", false);
        home("y:d-6", true);
        home("y:n-8", true);
        home("y:i-1", true);
        home("y:i-2", false);
        home("y:1+2*3-6", true);
        home("y:[1+2]*3-9", false);
        home("y:7/2-3", false);
        home("y:[0-7]/2+4", true);
        home("y:[0-7]/2+3", false);
        home("y:5/0", false);
        home("y:5/0+1", true);
        home("y:8/2/2-1", true);
        home("y:10-3-7", false);
        home("y:9999*9999-999*1000-1000", false);
        home("y:9999*9999-999*1000-999", true);
        home("y:9999*9999/1000-999", true);
        home("y:9999*9999/1000-1000", false);
        home("y:9999*9999*9999*9999/1000-1000", false);
        home("y:9999*9999+9999-999*1000-1000", false);
        home("y:0-9999*9999+999*1000+1001", true);
        home("y:0-9999*9999+999*1000+1000", false);
        home("y:[0-9999*9999]*[9999*9999]+999*1000+1001", true);
        home("y:d=7?1", true);
        home("y:d<7?1", false);
        home("y:d>6?1", true);
        home("y:d<7?1;y:b", true);
        home("y:d=7?0;y:b", false);
        home("y:!d=7?1;y:n>10?2;y:d>99?3", false);
        home("y:d=7&b=0?1", false);
        home("y:d=7&b=1?1", true);
        home("y:d=1&b=0|n=9?1", true);
        home("y:n=9|d=1&b=0?1", true);
        home("y:(n=9|d=1)&b=0?1", false);
        home("y:!(n=9&d=1)?1", true);
        home("y:!n=9|b=1?1", true);
        home("y:!n=9&b=1?1", false);
        home("y:!!n=9?1", true);
        home("y:d+1=8&[d-1]*2=12?1", true);
        home("y:1=1&2=2&3=4|5=5&6=6?1", true);
    }

    private static void checkCounts() {
        LastHome x = Check.war("md0;m;ms1d2;ok6;wp4g1");
        Check.law(x, "y:b");
        x.letter(3, 1);
        x.letter(4, 1);
        x.stay(1);
        x.evening();
        Check.fed(x, "abc");
        x.law(0);
        int[] due = {3, 1, 1, 3, 0, 1, 4, 1, 0, 2, 2, 2};
        for (int what = 0; what < due.length; what++) {
            Check.same("count " + what, x.count(what), due[what]);
        }
        x.law(Check.NONE);
        Check.same("count 8", x.count(8), 1);
        Check.same("count 4", x.count(4), Check.NONE);
        Check.same("count 12", x.count(12), Check.HIDDEN);
        Check.same("count -1", x.count(-1), Check.HIDDEN);
    }
}
