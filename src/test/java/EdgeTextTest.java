import java.util.function.IntFunction;
import java.util.function.Supplier;
import java.util.function.UnaryOperator;

/**
 * The edges of part 1 of the Terms and of promises 1 to 5, 7, 8 and 46. Each check bears the words it holds to.
 */
public final class EdgeTextTest {
    private static final String DIGITS = "0123456789";
    private static final String OPERAND = DIGITS + "dbniys[ ";
    private static final String UNIT = OPERAND + "!(";

    private EdgeTextTest() {
    }

    public static void main(String[] args) {
        menFromTwoToEight();
        orchardsUpToSix();
        oneTellsHowItIs();
        clausesInAnyOrder();
        lettersOnceInAClause();
        numbersOfItems();
        itemsWithout();
        nextByteOfWar();
        nextByteOfLaw();
        wholeWarOnly();
        endsTooEarly();
        blanksBetweenSigns();
        digitsOfLaws();
        sixWithinOneAnother();
        conditionBehindItsMark();
        numbersStayWithinBounds();
        divisionCuts();
        worthOfTheFirstThatHolds();
        homeAboveZero();
        lettersOfLaws();
        tapeOf240();
        bytesOfZeroAreLeftOut();
        endOfTape();
        faultOfTheTapeAlone();
        faultLeavesTape();
        textOfWar();
        nothingStaysOfAnotherWar();
        textOfLaw();
        lawThatHolds();
        countsAtTheirMost();
        Check.finish("EdgeTextTest");
    }

    private static int fault(int sort, String text) {
        return Check.fed(new LastHome(), text).fault(sort);
    }

    /** The FAULT is as told, and text refuses just what has one. */
    private static void war(String text, int due) {
        LastHome x = Check.fed(new LastHome(), text);
        Check.same("fault of WAR '" + text + "'", x.fault(0), due);
        Check.same("WAR '" + text + "' is taken", x.text(0) != Check.NONE, due == Check.NONE);
        Check.same("there is a WAR behind '" + text + "'", x.even() != Check.NONE, due == Check.NONE);
    }

    private static void law(String text, int due) {
        LastHome x = Check.fed(new LastHome(), text);
        Check.same("fault of LAW '" + text + "'", x.fault(1), due);
        Check.same("LAW '" + text + "' is taken", x.text(1), due == Check.NONE ? 0 : Check.NONE);
        Check.same("LAWS behind '" + text + "'", x.count(2), due == Check.NONE ? 1 : 0);
    }

    private static String joined(int many, IntFunction<String> clause) {
        StringBuilder all = new StringBuilder();
        for (int i = 0; i < many; i++) {
            all.append(i == 0 ? "" : ";").append(clause.apply(i));
        }
        return all.toString();
    }

    /** m (a MAN; 2 .. 8); with fewer than two MEN: the length; a ninth m at it. */
    private static void menFromTwoToEight() {
        war("", 0);
        war("ms1", 3);
        war("m", 1);
        for (int men = 2; men <= 8; men++) {
            String text = joined(men, i -> i == 0 ? "ms1" : "m");
            war(text, Check.NONE);
            Check.same("MEN of " + text, Check.fed(new LastHome(), text).text(0), men);
        }
        String eight = joined(8, i -> i == 0 ? "ms1" : "m");
        war(eight + ";m", eight.length() + 1);
        war(eight + ";mq", eight.length() + 1);
        war(eight + ";  ms1d2", eight.length() + 3);
        war(eight + ";w;o;m", eight.length() + 5);
        war(joined(9, i -> "m"), 16);
    }

    /** o (an ORCHARD; none to 6); a seventh o at it. */
    private static void orchardsUpToSix() {
        for (int orchards = 0; orchards <= 6; orchards++) {
            String text = "m;ms1" + (orchards > 0 ? ";" : "") + joined(orchards, i -> "ok" + (20 - i));
            war(text, Check.NONE);
            Check.same("ORCHARDS of " + text, Check.war(text).count(1), orchards);
        }
        String six = joined(6, i -> "ok" + (i + 1));
        war(six + ";o", six.length() + 1);
        war(six + ";m;ms1;ok9", six.length() + 7);
        war(six + "; oq", six.length() + 2);
        war(joined(7, i -> "o"), 12);
    }

    /** w (how it is; one at most); a second w at it. */
    private static void oneTellsHowItIs() {
        war("m;ms1", Check.NONE);
        war("m;ms1;w", Check.NONE);
        war("m;ms1;w;w", 8);
        war("wp1;m;ms1;wg1", 10);
        war("w;w", 2);
        war("w;wq", 2);
        war("w", 1);
    }

    /** CLAUSES with ; between, in any order. */
    private static void clausesInAnyOrder() {
        String[] clauses = {"m", "ms1", "o", "w"};
        for (int a = 0; a < 4; a++) {
            for (int b = 0; b < 4; b++) {
                for (int c = 0; c < 4; c++) {
                    int d = 6 - a - b - c;
                    if (a != b && a != c && b != c && d >= 0 && d < 4 && d != a && d != b && d != c) {
                        war(clauses[a] + ";" + clauses[b] + ";" + clauses[c] + ";" + clauses[d], Check.NONE);
                    }
                }
            }
        }
        war("m ms1", 2);
        war("m;;ms1", 2);
        war(";m;ms1", 0);
        war("m;ms1;", 6);
        war("m;ms1;;", 6);
    }

    /** A letter, each once at most in a CLAUSE: a letter that was there at it. */
    private static void lettersOnceInAClause() {
        String[] kinds = {"msdvbni", "okx", "wpg"};
        for (String kind : kinds) {
            for (int i = 1; i < kind.length(); i++) {
                for (int j = 1; j < kind.length(); j++) {
                    String text = "m;ms1;" + kind.charAt(0) + kind.charAt(i) + "1" + kind.charAt(j);
                    war(text, i == j ? text.length() - 1 : text.length());
                    war(text + "1", i == j ? text.length() - 1 : Check.NONE);
                }
            }
        }
        war("ms1d1v1b1n1i1;mi1n1b1v1d1s0", Check.NONE);
        war("ms1d1v1b1n1i1s", 13);
        war("ms1d1v1b1n1i1d1", 13);
        war("m;ms1;ok1x1k2", 11);
        war("m;ms1;wp1g1p1", 11);
        war("ms0;ms1;ms0;ok1;ok2;ok3", Check.NONE);
    }

    /** The bounds of each number; a number out of bounds is wrong at its last digit, a third digit itself. */
    private static void numbersOfItems() {
        numbers("m;ms1;m", "s", 0, 1, x -> x.man(2, 0));
        numbers("m;ms1;m", "d", 0, 20, x -> x.man(2, 1));
        numbers("m;ms1;m", "v", 1, 5, x -> x.man(2, 2));
        numbers("m;ms1;m", "b", 0, 1, x -> x.man(2, 3));
        numbers("m;ms1;m", "n", 0, 9, x -> x.man(2, 4));
        numbers("m;ms1;m", "i", 0, 9, x -> x.man(2, 5));
        numbers("m;ms1;o", "k", 1, 20, x -> x.orchard(0, 0));
        numbers("m;ms1;o", "x", 1, 9, x -> x.orchard(0, 1));
        numbers("m;ms1;w", "p", 0, 9, x -> x.count(6));
        numbers("m;ms1;w", "g", 0, 1, x -> x.count(7));
    }

    private interface Asked {
        int of(LastHome x);
    }

    private static void numbers(String ahead, String letter, int least, int most, Asked asked) {
        String start = ahead + letter;
        war(start, start.length());
        war(start + ";", start.length());
        war(start + "-1", start.length());
        for (int number = 0; number < 100; number++) {
            boolean right = number >= least && number <= most;
            String two = start + number / 10 + number % 10;
            number(two, right, number, asked);
            if (number < 10) {
                number(start + number, right, number, asked);
            }
            for (int third = 0; third < 10; third++) {
                Check.same("third digit of " + two + third, fault(0, two + third), two.length());
            }
            Check.same("third digit of " + two + "00", fault(0, two + "00"), two.length());
            Check.same("third digit of " + two + "1;", fault(0, two + "1;"), two.length());
        }
    }

    private static void number(String text, boolean right, int number, Asked asked) {
        int due = right ? Check.NONE : text.length() - 1;
        Check.same("fault of " + text, fault(0, text), due);
        Check.same("fault of " + text + ";m", fault(0, text + ";m"), due);
        Check.same("fault of " + text + " ;m", fault(0, text + " ;m"), due);
        if (right) {
            Check.same("number of " + text, asked.of(Check.war(text)), number);
        }
    }

    /** What an ITEM is without its letter. */
    private static void itemsWithout() {
        LastHome x = Check.war("m;ms1;o;w");
        int[] man = {0, 6, 1, 0, 3, 0};
        for (int what = 0; what < man.length; what++) {
            Check.same("without, what " + what, x.man(0, what), man[what]);
        }
        Check.same("k without", x.orchard(0, 0), 3);
        Check.same("x without", x.orchard(0, 1), 2);
        Check.same("p without", x.count(6), 6);
        Check.same("g without", x.count(7), 0);
        LastHome y = Check.war("m;ms1");
        Check.same("p without w", y.count(6), 6);
        Check.same("g without w", y.count(7), 0);
        LastHome z = Check.war(Check.war("md1v2b1n5i6;ms1;ok9x7;wp1g1"), "m;ms1;o");
        for (int what = 0; what < man.length; what++) {
            Check.same("nothing stays of the WAR before, what " + what, z.man(0, what), man[what]);
        }
        Check.same("nor of its ORCHARD", z.orchard(0, 0) * 10 + z.orchard(0, 1), 32);
        Check.same("nor of how it was", z.count(6) * 10 + z.count(7), 60);
    }

    /** FAULT: the first byte at which no such TEXT can go on; all 255 bytes behind a beginning. */
    private static void sweep(int sort, String start, String allowed) {
        for (int sign = 1; sign < 256; sign++) {
            String text = start + (char) sign;
            int got = fault(sort, text);
            boolean goesOn = got == Check.NONE || got == text.length();
            boolean right = allowed.indexOf((char) sign) >= 0;
            Check.same("'" + start + "' goes on with " + sign, goesOn, right);
            if (!right) {
                Check.same("fault of '" + start + "' and " + sign, got, start.length());
                Check.same("whatever comes behind", fault(sort, text + "d"), start.length());
            }
        }
    }

    private static void nextByteOfWar() {
        sweep(0, "", "mow ");
        sweep(0, " ", "mow ");
        sweep(0, "m", "sdvbni; ");
        sweep(0, "m ", "sdvbni; ");
        sweep(0, "o", "kx; ");
        sweep(0, "w", "pg; ");
        sweep(0, "m;", "mow ");
        sweep(0, "m; ", "mow ");
        sweep(0, "m;ms1;w;", "mo ");
        sweep(0, "ms", "01 ");
        sweep(0, "md", DIGITS + " ");
        sweep(0, "mv", "12345 ");
        sweep(0, "mb", "01 ");
        sweep(0, "mn", DIGITS + " ");
        sweep(0, "mi", DIGITS + " ");
        sweep(0, "ok", "123456789 ");
        sweep(0, "ox", "123456789 ");
        sweep(0, "wp", DIGITS + " ");
        sweep(0, "wg", "01 ");
        sweep(0, "md ", DIGITS + " ");
        sweep(0, "md0", DIGITS + "svbni; ");
        sweep(0, "md1", DIGITS + "svbni; ");
        sweep(0, "md2", "0svbni; ");
        sweep(0, "md3", "svbni; ");
        sweep(0, "md1 ", "svbni; ");
        sweep(0, "md12", "svbni; ");
        sweep(0, "md00", "svbni; ");
        sweep(0, "ms0", "01dvbni; ");
        sweep(0, "ms1", "dvbni; ");
        sweep(0, "mv1", "sdbni; ");
        sweep(0, "ok2", "0x; ");
        sweep(0, "ok1x1", "; ");
        sweep(0, "wp9", "g; ");
        sweep(0, "wp9g1", "; ");
        sweep(0, "ms1d2v3b1n1i1", "; ");
        String eight = joined(8, i -> i == 0 ? "ms1" : "m");
        sweep(0, eight + ";", "ow ");
        sweep(0, joined(6, i -> "ok" + (i + 1)) + ";", "mw ");
        sweep(0, eight + ";w;" + joined(6, i -> "ok" + (i + 1)) + ";", " ");
    }

    private static void nextByteOfLaw() {
        sweep(1, "", "y ");
        sweep(1, "y", ": ");
        sweep(1, "y ", ": ");
        sweep(1, "y:", UNIT);
        sweep(1, "y: ", UNIT);
        sweep(1, "y:d", "+-*/=<>; ");
        sweep(1, "y:d ", "+-*/=<>; ");
        sweep(1, "y:1", DIGITS + "+-*/=<>; ");
        sweep(1, "y:1 ", "+-*/=<>; ");
        sweep(1, "y:123", DIGITS + "+-*/=<>; ");
        sweep(1, "y:1234", "+-*/=<>; ");
        sweep(1, "y:d+", OPERAND);
        sweep(1, "y:d-", OPERAND);
        sweep(1, "y:d*", OPERAND);
        sweep(1, "y:d/", OPERAND);
        sweep(1, "y:[", OPERAND);
        sweep(1, "y:[d", "+-*/] ");
        sweep(1, "y:[d]", "+-*/=<>; ");
        sweep(1, "y:d=", OPERAND);
        sweep(1, "y:d<", OPERAND);
        sweep(1, "y:d>", OPERAND);
        sweep(1, "y:d=1", DIGITS + "+-*/&|? ");
        sweep(1, "y:d=b", "+-*/&|? ");
        sweep(1, "y:d=b&", UNIT);
        sweep(1, "y:d=b|", UNIT);
        sweep(1, "y:d=b|!", UNIT);
        sweep(1, "y:d=b&n", "+-*/=<> ");
        sweep(1, "y:d=b?", OPERAND);
        sweep(1, "y:d=b?1", DIGITS + "+-*/; ");
        sweep(1, "y:d=b?d", "+-*/; ");
        sweep(1, "y:d=b?[d", "+-*/] ");
        sweep(1, "y:!", UNIT);
        sweep(1, "y:!d", "+-*/=<> ");
        sweep(1, "y:![d]", "+-*/=<> ");
        sweep(1, "y:!d=b", "+-*/&|? ");
        sweep(1, "y:(", UNIT);
        sweep(1, "y:(d", "+-*/=<> ");
        sweep(1, "y:(d=b", "+-*/&|) ");
        sweep(1, "y:(d=b)", "&|? ");
        sweep(1, "y:!(d=b)", "&|? ");
        sweep(1, "y:((d=b)", "&|) ");
        sweep(1, "y:1;", "y ");
        sweep(1, "y:d=b?1;", "y ");
        sweep(1, "y:[[[[[", OPERAND);
        sweep(1, "y:[[[[[[", DIGITS + "dbniys ");
        sweep(1, "y:!!!!!", UNIT);
        sweep(1, "y:!!!!!!", DIGITS + "dbniys ");
        sweep(1, "y:(((((", UNIT);
        sweep(1, "y:((((((", DIGITS + "dbniys ");
        sweep(1, "y:!(!(!(", DIGITS + "dbniys ");
        sweep(1, "y:((!!d=[[1+", DIGITS + "dbniys ");
        sweep(1, "y:((!!d=[1+", OPERAND);
        sweep(1, "y:d=1?[[[[[[", DIGITS + "dbniys ");
    }

    /** The length with fewer than two MEN, a SIDE without any, or two ORCHARDS at one STEP; a wrong byte comes first. */
    private static void wholeWarOnly() {
        war("ms0", 3);
        war("m;o;w", 5);
        war("o", 1);
        war("m;m", 3);
        war("ms1;ms1", 7);
        war("m;m  ", 5);
        war("m;m;m;m;m;m;m;m", 15);
        war("ms1;ms1;o;w;ms1", 15);
        war("m;m;ms1", Check.NONE);
        war("m;ms1;o;o", 9);
        war("m;ms1;o;ok3", 11);
        war("m;ms1;ok03;ok3x9 ", 17);
        war("m;ms1;ok20;ok2;ok20", 19);
        war("m;ms1;ok1;ok2;ok3;ok4;ok5;ok1", 29);
        war("ok1;ok1;m;ms1", 13);
        war("m;ms1;ok19;ok20;ok1;ok2", Check.NONE);
        war("o;o;q", 4);
        war("o;o;m;ms1;w;w", 12);
        war("m;m;md21", 7);
        war("mq", 1);
    }

    /** The length, if it ends too early: no beginning of a right TEXT has another FAULT. */
    private static void endsTooEarly() {
        String[] wars = {
            "md20v5b1n9i9;ms1d10;ok20x9;o;wp9g1", " m ; m s 1 ; o k 12 ; w p 3 ", "w;ok1;ok2;ok3;ok4;ok5;ok6;m;ms1",
        };
        for (String text : wars) {
            beginnings(0, text);
        }
        String[] laws = {
            "y:d=0?1;y:b", "y:!((d+1=2*[b-n]|y<1234)&!i>3)?[[[s]]]/7;y : 0", "y:[[[[[[d]]]]]]<1&((((((n=1))))))?9999", "y:!!!!!!d=1?0",
        };
        for (String text : laws) {
            beginnings(1, text);
        }
        law("", 0);
        law(" ", 1);
        law("y:1;", 4);
        law("y:1; ", 5);
    }

    private static void beginnings(int sort, String text) {
        for (int n = 0; n < text.length(); n++) {
            int got = fault(sort, text.substring(0, n));
            Check.same("fault of the first " + n + " of '" + text + "'", got == Check.NONE ? n : got, n);
        }
        Check.same("fault of '" + text + "'", fault(sort, text), Check.NONE);
    }

    /** Blanks (32) may stand between all signs of both, not within numbers. */
    private static void blanksBetweenSigns() {
        String[] texts = {"md12s0;ms1d20;ok10x9;wp1", "y:!(d+12=2*[b-345])|n<1?[y]/6789;y:0"};
        for (int sort = 0; sort < 2; sort++) {
            String text = texts[sort];
            for (int at = 0; at <= text.length(); at++) {
                boolean within = at > 0 && at < text.length()
                    && Character.isDigit(text.charAt(at - 1)) && Character.isDigit(text.charAt(at));
                for (int many = 1; many <= 3; many++) {
                    String airy = text.substring(0, at) + " ".repeat(many) + text.substring(at);
                    Check.same("fault of '" + airy + "'", fault(sort, airy), within ? at + many : Check.NONE);
                }
                String tab = text.substring(0, at) + "\t" + text.substring(at);
                Check.same("a tab is no blank in '" + tab + "'", fault(sort, tab), at);
            }
        }
        LastHome x = Check.war("  m  d  1  s  1 ;  m d 20  ; o   k 1  x  4 ; w g 1");
        Check.same("STEPS", x.man(0, 1) * 100 + x.man(1, 1), 120);
        Check.same("REST", x.man(0, 6), 4);
        Check.same("ALLIED", x.count(7), 1);
        Check.law(x, " y  :  d  -  19 ");
        Check.same("READ", x.reads(0) * 10 + x.reads(1), 1);
    }

    /** A number (1 to 4 digits): the fifth one itself, whatever stands ahead of it. */
    private static void digitsOfLaws() {
        law("y:0", Check.NONE);
        law("y:00", Check.NONE);
        law("y:000", Check.NONE);
        law("y:0000", Check.NONE);
        law("y:00000", 6);
        law("y:12345", 6);
        law("y:123456", 6);
        law("y:1234 5", 7);
        law("y:d+99999", 8);
        law("y:d=12345?1", 8);
        law("y:d=1?12345", 10);
        law("y:[12345]", 7);
        law("y:1;y:12345", 10);
        LastHome x = Check.war("md1;ms1");
        Check.law(x, "y:9999-9998");
        Check.law(x, "y:0001");
        Check.law(x, "y:9999-9999");
        Check.same("numbers of four digits", x.reads(0), 3);
    }

    /** At most six of ( [ ! within one another: a seventh at it; those beside one another do not count. */
    private static void sixWithinOneAnother() {
        String[] opened = {"[", "(", "!"};
        for (int deep = 0; deep <= 8; deep++) {
            String sums = "y:" + "[".repeat(deep) + "d" + "]".repeat(deep);
            law(sums, deep <= 6 ? Check.NONE : 8);
            String units = "y:" + "(".repeat(deep) + "d=1" + ")".repeat(deep) + "?1";
            law(units, deep <= 6 ? Check.NONE : 8);
            String not = "y:" + "!".repeat(deep) + "d=1?1";
            law(not, deep <= 6 ? Check.NONE : 8);
            String right = "y:d=" + "[".repeat(deep) + "d" + "]".repeat(deep) + "?1";
            law(right, deep <= 6 ? Check.NONE : 10);
            String answer = "y:d=1?" + "[".repeat(deep) + "d" + "]".repeat(deep);
            law(answer, deep <= 6 ? Check.NONE : 12);
        }
        for (String last : opened) {
            law("y:(!(!(!" + last, 8);
            law("y:d=1&(!(!(!" + last, 12);
        }
        for (char sign : new char[] {'&', '|'}) {
            law("y:d=1" + sign + "!!!!!!d=1?1", Check.NONE);
            law("y:d=1" + sign + "!!!!!!!d=1?1", 12);
            law("y:(d=1)" + sign + "!!!!!!d=1?1", Check.NONE);
            law("y:(d=1)" + sign + "!!!!!!!d=1?1", 14);
            law("y:d=1" + sign + "d=[[[[[[d]]]]]]?1", Check.NONE);
            law("y:d=1" + sign + "d=[[[[[[[d]]]]]]]?1", 14);
            law("y:(d=1" + sign + "!!!!!d=1)?1", Check.NONE);
            law("y:(d=1" + sign + "!!!!!!d=1)?1", 12);
        }
        law("y:(!(!(![", 8);
        law("y:((((([d]=1)))))?1", Check.NONE);
        law("y:(((((([d", 8);
        law("y:!d=1&!d=1&!d=1&!d=1&!d=1&!d=1&!d=1?1", Check.NONE);
        law("y:[d]+[d]+[d]+[d]+[d]+[d]+[d]", Check.NONE);
        law("y:(d=1)|(d=1)|(d=1)|(d=1)|(d=1)|(d=1)|(d=1)?1", Check.NONE);
        law("y:[[[[[[d]]]]]]*[[[[[[d]]]]]]", Check.NONE);
        law("y:((((((d=1))))))&((((((d=1))))))?[[[[[[d]]]]]]", Check.NONE);
        law("y:[[[[[[d]+[d]]]]]]*[[[[[[[", 26);
        law("y:!!!!!!d=1?[[[[[[d]]]]]];y:!!!!!!d=1?1", Check.NONE);
    }

    /** A CLAUSE that goes on with ! or ( behind its : has a CONDITION; others perhaps. */
    private static void conditionBehindItsMark() {
        law("y:(d=1)", 7);
        law("y:(d=1);y:1", 7);
        law("y:!d=1", 6);
        law("y:!d=1;", 6);
        law("y:(d)?1", 4);
        law("y:(d+1)*2", 6);
        law("y:(d=1)+1", 7);
        law("y:(d=1)=1", 7);
        law("y:!(d)", 5);
        law("y:[d]", Check.NONE);
        law("y:[d]=1?1", Check.NONE);
        law("y:[d=1]", 4);
        law("y:d?1", 3);
        law("y:d=1", 5);
        law("y:d=1;y:1", 5);
        law("y:d=1=1?1", 5);
        law("y:d=1<1?1", 5);
        law("y:d=(1)?1", 4);
        law("y:d=!1?1", 4);
        law("y:d=1?(d=1)", 6);
        law("y:d=1?!d", 6);
        law("y:d=1?d=1", 7);
        law("y:d=1?1?1", 7);
        law("y:d=1&?1", 6);
        law("y:d=1|&", 6);
        law("y:()?1", 3);
    }

    /** Whether MAN 0 (d 7, b 1, n 9, i 2, s 0, DAY 0) is HOME by a LAW. */
    private static void home(String law, boolean due) {
        LastHome x = Check.war("md7b1n9i2;ms1d3n4i5;ms1");
        Check.law(x, law);
        Check.same("HOME by " + law, x.reads(0), due ? 1 : 0);
    }

    private static void alike(String sum, String number) {
        home("y:" + sum + "=" + number + "?1", true);
        home("y:[" + sum + "]<" + number + "|[" + sum + "]>" + number + "?1;y:0", false);
    }

    /** Behind each sign numbers are within -1,000,000 .. 1,000,000. */
    private static void numbersStayWithinBounds() {
        alike("1000*1000-1", "999*1000+999");
        alike("1000*1000-1-999*1000", "999");
        alike("1000*1000-999*1000", "1000");
        alike("1000*1000+1-999*1000", "1000");
        alike("1000*1000-1+1-999*1000", "1000");
        alike("1000*1000-1+2-999*1000", "1000");
        alike("1000*1001-999*1000", "1000");
        alike("1001*999-999*1000", "999");
        alike("0-1000*1000+999*1000", "0-1000");
        alike("0-1000*1000-1+999*1000", "0-1000");
        alike("0-1000*1000+1+999*1000", "0-999");
        alike("[0-1000]*1001+999*1000", "0-1000");
        alike("[0-1001]*999+999*1000", "0-999");
        alike("[0-1000]*[0-1001]-999*1000", "1000");
        alike("9999*9999*9999-999*1000", "1000");
        alike("9999*9999*[0-1]+999*1000", "0-1000");
        alike("9999*9999/1000", "1000");
        alike("[1000*1000]*[1000*1000]-999*1000", "1000");
        alike("[0-1000*1000]*[1000*1000]+999*1000", "0-1000");
        alike("[0-1000*1000]*[0-1000*1000]-999*1000", "1000");
        alike("[1000*1000]+[1000*1000]-1000*1000", "0");
        alike("0-[1000*1000]-[1000*1000]+1000*1000", "0");
        alike("[1000*1000]/[0-1]+999*1000", "0-1000");
    }

    /** / cuts towards 0, by 0 gives 0. */
    private static void divisionCuts() {
        alike("7/2", "3");
        alike("[0-7]/2", "0-3");
        alike("7/[0-2]", "0-3");
        alike("[0-7]/[0-2]", "3");
        alike("1/2", "0");
        alike("[0-1]/2", "0");
        alike("6/3", "2");
        alike("9/10", "0");
        alike("5/0", "0");
        alike("0/0", "0");
        alike("[0-5]/0", "0");
        alike("5/[d-d]", "0");
        alike("5/0*3+1", "1");
        alike("8/4/2", "1");
        alike("8/[4/2]", "4");
        alike("7*3/2", "10");
        alike("7/2*3", "9");
        alike("2+3*4-20/5-1", "9");
    }

    /** WORTH: the SUM of the first CLAUSE whose CONDITION holds (or has none), 0 without. */
    private static void worthOfTheFirstThatHolds() {
        home("y:d=6?1", false);
        home("y:d=7?1", true);
        home("y:d=7?0;y:1", false);
        home("y:d=6?0;y:1", true);
        home("y:0;y:1", false);
        home("y:1;y:0", true);
        home("y:d=6?1;y:d=8?1;y:d=7?1", true);
        home("y:d=6?1;y:d=8?1;y:d=9?1", false);
        home("y:d=6?1;y:d=7?0;y:1", false);
        home("y:d=7&n=9?1", true);
        home("y:d=7&n=8?1", false);
        home("y:d=6&n=9?1", false);
        home("y:d=6|n=9?1", true);
        home("y:d=7|n=8?1", true);
        home("y:d=6|n=8?1", false);
        home("y:d=7|n=9&b=0?1", true);
        home("y:d=6&n=9|b=1?1", true);
        home("y:!d=7|b=1?1", true);
        home("y:!(d=7|b=1)?1", false);
        home("y:!d=6&b=1?1", true);
        home("y:!!d=7?1", true);
        home("y:!!!d=7?1", false);
        home("y:d<7?1", false);
        home("y:d<8?1", true);
        home("y:d>7?1", false);
        home("y:d>6?1", true);
        home("y:d=6?1+1", false);
        home("y:d=6?1+1;y:0", false);
        home("y:d=6?[1+2]*3;y:d=8?4+5*6;y:d=7?0-1", false);
        home("y:d=6&n=9|b=0?[1+2]*3-1;y:!d=7?4+5;y:1+1", true);
        home("y:d=7?d-6", true);
        home("y:d=7?d-7", false);
    }

    /** HOME by a LAW: WORTH above 0. */
    private static void homeAboveZero() {
        home("y:1", true);
        home("y:0", false);
        home("y:0-1", false);
        home("y:1000*1000", true);
        home("y:0-1000*1000", false);
        home("y:1/2", false);
        home("y:5/0", false);
    }

    /** Letters: d STEPS, b BED, n NEED, i ILL, y the DAY, s SIDE. */
    private static void lettersOfLaws() {
        alike("d", "7");
        alike("b", "1");
        alike("n", "9");
        alike("i", "2");
        alike("y", "0");
        alike("s", "0");
        LastHome x = Check.war("md20n0i9;ms1d20b1n9i0");
        Check.law(x, "y:s");
        Check.law(x, "y:y=3&d=17?1");
        Check.law(x, "y:i-8");
        Check.law(x, "y:n-8");
        Check.same("READ of SIDE 0", x.reads(0), 4);
        Check.same("READ of SIDE 1", x.reads(1), 9);
        x.evening();
        x.evening();
        Check.same("not on DAY 2", x.reads(0), 4);
        x.evening();
        Check.same("on DAY 3, at STEP 17", x.reads(0), 6);
        x.evening();
        Check.same("not on DAY 4", x.reads(0), 4);
    }

    /** Twenty bytes more: how many it has. NONE: more than 240. */
    private static void tapeOf240() {
        for (int had = 218; had <= 240; had++) {
            for (int more = 0; more <= 20; more++) {
                LastHome x = Check.fed(new LastHome(), "m".repeat(had));
                int[] n = new int[5];
                for (int j = 0; j < more; j++) {
                    n[j / 4] |= 0x20 << 24 - j % 4 * 8;
                }
                int got = x.feed(n[0], n[1], n[2], n[3], n[4]);
                boolean fits = had + more <= 240;
                Check.same(had + " bytes and " + more, got, fits ? had + more : Check.NONE);
                Check.same(had + " bytes and " + more + " are", x.count(3), fits ? had + more : had);
            }
        }
        LastHome y = Check.fed(new LastHome(), "m;ms1" + " ".repeat(235));
        Check.same("a WAR of 240 bytes", y.text(0), 2);
        Check.same("the TAPE is empty then", y.feed(0x6d3b6d73, 0x31000000, 0, 0, 0), 5);
    }

    /** Of each number the highest first; bytes of 0 are left out. */
    private static void bytesOfZeroAreLeftOut() {
        String text = "m;ms1";
        for (int gap = 0; gap < 4; gap++) {
            int[] n = new int[5];
            for (int j = 0; j < 5; j++) {
                int at = gap == 0 ? j : gap == 1 ? 15 + j : gap == 2 ? 4 * j : 4 * j + 3;
                n[at / 4] |= text.charAt(j) << 24 - at % 4 * 8;
            }
            LastHome x = new LastHome();
            Check.same("bytes by gap " + gap, x.feed(n[0], n[1], n[2], n[3], n[4]), 5);
            Check.same("WAR by gap " + gap, x.text(0), 2);
        }
        for (int at = 0; at < 20; at++) {
            for (int sign : new int[] {1, 127, 128, 255}) {
                int[] n = new int[5];
                n[at / 4] = sign << 24 - at % 4 * 8;
                LastHome x = new LastHome();
                Check.same("byte " + sign + " at " + at, x.feed(n[0], n[1], n[2], n[3], n[4]), 1);
                Check.same("it is wrong", x.fault(0), 0);
            }
        }
        LastHome y = new LastHome();
        Check.same("twenty of 0", y.feed(0, 0, 0, 0, 0), 0);
        Check.same("twenty of none", y.feed(-1, -1, -1, -1, -1), 20);
        Check.same("least of numbers", y.feed(Integer.MIN_VALUE, Integer.MAX_VALUE, 0, 0, 1), 26);
        LastHome z = new LastHome();
        z.feed(0x6d730031, 0, 0x003b0000, 0, 0x0000006d);
        Check.same("their order", z.text(0), 2);
        Check.same("MAN 0 is of SIDE 1", z.man(0, 0), 1);
    }

    /** The TAPE has its first n bytes alone. False: n. */
    private static void endOfTape() {
        String text = "m;ms1;mq";
        for (int n = -2; n <= 10; n++) {
            LastHome x = Check.fed(new LastHome(), text);
            boolean right = n >= 0 && n <= 8;
            Check.same("end " + n, x.end(n), right);
            Check.same("bytes behind end " + n, x.count(3), right ? n : 8);
            Check.same("fault behind end " + n, x.fault(0), right && n == 8 ? 7 : n == 5 || n == 7 ? -1 : right ? n : 7);
        }
        LastHome y = Check.fed(new LastHome(), "m;ms1dq");
        y.end(6);
        y.feed(0x39000000, 0, 0, 0, 0);
        Check.same("bytes come behind those that are left", y.text(0), 2);
        Check.same("STEPS", y.man(1, 1), 9);
        LastHome z = new LastHome();
        Check.same("end 0 of none", z.end(0), true);
        Check.same("end 1 of none", z.end(1), false);
        Check.same("end 240 of 240", Check.fed(z, " ".repeat(240)).end(240), true);
        Check.same("end 241 of 240", z.end(241), false);
        Check.same("end 0 of 240", z.end(0), true);
        Check.same("what is gone is gone", z.end(240), false);
        LastHome blank = Check.fed(new LastHome(), "m;ms1;   ");
        blank.end(6);
        Check.same("blanks behind the end are no blanks", blank.fault(0), 6);
        Check.fed(blank, "y:   ");
        blank.end(2);
        Check.same("nor in a LAW", blank.fault(1), 2);
        Check.fed(blank, "md12;ms1");
        blank.end(3);
        blank.feed(0x3b6d7331, 0, 0, 0, 0);
        Check.same("nor digits", blank.text(0), 2);
        Check.same("STEPS", blank.man(0, 1), 1);
    }

    /** The FAULT of the TAPE, whatever was told, or found wrong, ahead of it. */
    private static void faultOfTheTapeAlone() {
        String[] texts = {
            "m;ms1", "m;m", "ms1;ms1", "ms1", "m;ms1;o;o", "m;ms1;o", "m;ms1;w", "m;ms1;w;w", "ok1;ok2;ok3;ok4;ok5;ok6;o", "m;ms1;ok3x9",
            "m;m;m;m;m;m;m;m;m", "mq", "md2d", "",
            "y:1", "y:(d=1)?1", "y:((((((d=1", "y:[[[[[[[", "y:d=1", "y:d+", "y:12345", "y:[[[[[[d]]]]]]"
        };
        for (String first : texts) {
            for (String second : texts) {
                LastHome x = Check.fed(new LastHome(), first);
                x.fault(0);
                x.fault(1);
                Check.fed(x, second);
                for (int sort = 0; sort < 2; sort++) {
                    Check.same("fault of '" + second + "' behind '" + first + "'", x.fault(sort), fault(sort, second));
                }
                Check.same("WAR '" + second + "' behind '" + first + "'", x.text(0) > 0, fault(0, second) == Check.NONE);
            }
        }
    }

    /** The FAULT as a WAR (0), a LAW (1). NONE: none. -2: no such sort. */
    private static void faultLeavesTape() {
        LastHome x = Check.fed(new LastHome(), "m;ms1");
        for (int again = 0; again < 3; again++) {
            Check.same("as a WAR", x.fault(0), Check.NONE);
            Check.same("as a LAW", x.fault(1), 0);
            Check.same("as nothing", x.fault(2), -2);
            Check.same("as nothing", x.fault(-1), -2);
        }
        Check.same("it is no WAR yet", x.count(0), 0);
        Check.same("five bytes", x.count(3), 5);
        Check.fed(x, "y:d");
        Check.same("as a LAW", x.fault(1), Check.NONE);
        Check.same("as a WAR", x.fault(0), 0);
        Check.same("it is no LAW yet", x.count(2), 0);
        LastHome z = new LastHome();
        for (int l = 0; l < 4; l++) {
            Check.law(z, "y:1");
        }
        Check.fed(z, "y:1");
        Check.same("no FAULT, though there are four LAWS", z.fault(1), Check.NONE);
    }

    /** DAY 0; all that was of another one, LETTERS, too, is gone but LAWS, which holds; the TAPE is empty then. */
    private static void textOfWar() {
        LastHome x = Scenes.full();
        x.undo();
        x.end(0);
        Check.same("the DAY ahead of it", x.count(5), 61);
        Check.fed(x, "m;m;ms1d5;ok5x4");
        Check.same("MEN", x.text(0), 3);
        int[] due = {3, 1, 4, 0, 3, 0, 6, 0, 0, 0, 0, 0};
        for (int what = 0; what < due.length; what++) {
            Check.same("behind another WAR, count " + what, x.count(what), due[what]);
        }
        Check.same("nothing to UNDO", x.undo(), Check.NONE);
        Check.same("no IMAGE of this WAR", x.back(), Check.NONE);
        Check.same("no LOG", x.log(0, 0), Check.HIDDEN);
        Check.same("all rows FIT", x.fit(3, -1), 1771);
        Check.same("ORCHARDS of the other one are gone", x.orchard(1, 0), Check.NONE);
        Check.same("REST of this one's", x.man(2, 6), 4);
        Check.same("MEN of the other one are gone", Check.throwsNoSuchElement(x, 3, 0), true);
        Check.same("a LAW of old", x.loophole(2), 0);
        Check.same("no BED any more", x.reads(0), 0);
        LastHome y = Check.war("md2;ms1d2;ok2");
        y.stay(0);
        y.letter(1, 1);
        y.image();
        Check.war(y, "md2;ms1d2;ok2");
        Check.same("the same WAR anew: nobody did a deed", y.man(0, 7), 0);
        Check.same("RESTS are as at first", y.man(0, 6), 2);
        Check.same("no LETTER", y.count(9), 0);
        Check.same("no IMAGE", y.back(), Check.NONE);
        Check.same("no DUEL of the one before", y.duel(0, 1, 0), Check.war("md2;ms1d2;ok2").duel(0, 1, 0));
        LastHome z = new LastHome();
        z.letter(3, 1);
        Check.war(z, "m;ms1");
        Check.same("LETTERS from ahead of the first WAR are gone, too", z.count(9), 0);
    }

    /** All that was of another one is gone: no answer is another one behind a larger WAR. */
    private static void nothingStaysOfAnotherWar() {
        String[] wars = {
            "md3v2;ms1d0;o", "md9;ms1d9;ok9x2", "ms1d3v5;md8v5;ok8x3;wp1", "md0;ms1d20v3;md6n9i5;ok6x1;ok20x9", "md2;md1;ms1d1;ok1x1;wg1"
        };
        for (String war : wars) {
            compareBehind(war, "m;m;ms1;m;m;m;ms1d0;md0;wg1");
            compareBehind(war, "md20v5b1n9i8;md20;md20v2;md20v3;ms1d20v5;ms1d20;ms1d20v2;ms1d20v3"
                + ";ok20x9;ok9x9;ok8x9;ok6x9;ok3x9;ok1x9;wp9g1");
        }
    }

    private static void compareBehind(String war, String former) {
        Supplier<LastHome> alone = () -> Check.war(withLaws(), war);
        Supplier<LastHome> behind = () -> {
            LastHome x = Check.war(withLaws(), former);
            x.duel(0, 4, 0);
            x.champion(0);
            x.escorts(0, 1);
            x.letter(3, 2);
            x.sure(3);
            x.march(5, 3L);
            x.image();
            x.stay(0);
            return Check.war(x, war);
        };
        Check.same("'" + war + "' behind '" + former + "'", Trace.of(behind).equals(Trace.of(alone)), true);
        Check.same("asked, '" + war + "' behind '" + former + "'", Trace.asked(behind).equals(Trace.asked(alone)), true);
        for (int seed = 0; seed < 20; seed++) {
            int chance = seed;
            UnaryOperator<LastHome> marched = x -> {
                x.march(3, chance);
                x.evening();
                return x;
            };
            String due = Trace.of(() -> marched.apply(alone.get()));
            String got = Trace.of(() -> marched.apply(behind.get()));
            Check.same("'" + war + "' goes on as if there had been no other", got.equals(due), true);
        }
    }

    private static LastHome withLaws() {
        LastHome x = new LastHome();
        Check.law(x, "y:d<2?1");
        Check.law(x, "y:0");
        x.law(1);
        return x;
    }

    /** A LAW: its number. NONE: there are four LAWS. */
    private static void textOfLaw() {
        LastHome x = new LastHome();
        for (int l = 0; l < 4; l++) {
            Check.same("its number", Check.law(x, "y:" + l), l);
            Check.same("LAWS", x.count(2), l + 1);
            Check.same("the TAPE is empty", x.count(3), 0);
            Check.same("none holds by itself", x.count(4), Check.NONE);
        }
        Check.fed(x, "y:9");
        Check.same("a fifth", x.text(1), Check.NONE);
        Check.same("LAWS", x.count(2), 4);
        Check.same("the TAPE stays", x.count(3), 3);
        Check.fed(x, "m;ms1");
        Check.same("a WAR even so", x.text(0), 2);
        Check.same("three of them", x.reads(0), 14);
    }

    /** The LAW that holds (NONE: none). False: no such one. */
    private static void lawThatHolds() {
        LastHome x = Check.war("md0b1;md2;ms1d2b1;ms1d2");
        Check.same("none is there", x.law(0), false);
        for (int l = 0; l < 4; l++) {
            Check.law(x, l == 0 ? "y:b" : l == 1 ? "y:d" : l == 2 ? "y:1" : "y:0");
            Check.same("the latest", x.law(l), true);
            Check.same("the next one", x.law(l + 1), false);
            Check.same("it still holds", x.count(4), l);
        }
        int[] home = {5, 14, 15, 0};
        int[] won = {-1, 0, 2, -1};
        for (int l = 0; l < 4; l++) {
            Check.same("law " + l, x.law(l), true);
            Check.same("HOME by law " + l, x.count(8), home[l]);
            Check.same("WON by law " + l, x.won(), won[l]);
        }
        Check.same("none", x.law(Check.NONE), true);
        Check.same("HOME without LAW", x.count(8), 1);
        Check.same("-2", x.law(-2), false);
        Check.same("none still", x.count(4), Check.NONE);
        Check.same("to hold a LAW is no ACT", x.count(11), 0);
    }

    /** Each count at its least and at its most; HIDDEN for others. */
    private static void countsAtTheirMost() {
        LastHome x = new LastHome();
        int[] none = {0, 0, 0, 0, -1, 0, 0, 0, 0, 0, 0, 0};
        int[] most = {8, 6, 4, 240, 3, 62, 9, 1, 0, 10, 60, 40};
        LastHome y = Scenes.full();
        for (int what = 0; what < 12; what++) {
            Check.same("count " + what + " at first", x.count(what), none[what]);
            Check.same("count " + what + " at its most", y.count(what), most[what]);
        }
        Check.same("the last DAY", Scenes.lastDay().count(5), 9999);
        Check.law(x, "y:1");
        x.law(0);
        Check.same("who is HOME without a WAR", x.count(8), 0);
        Check.war(x, "m;ms1;m;m;m;m;m;m");
        Check.same("all eight are HOME", x.count(8), 255);
        Check.same("12", y.count(12), Check.HIDDEN);
        Check.same("-1", y.count(-1), Check.HIDDEN);
    }
}
