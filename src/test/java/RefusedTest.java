import java.util.function.IntUnaryOperator;

/**
 * "What is refused answers as told and changes nothing": each kind of refusal that a promise names, with the numbers
 * next to the bounds and far from them, in states in which all would be seen. Nor do calls that only ask change anything.
 */
public final class RefusedTest {
    private static final Trace FRESH = new Trace("fresh", Scenes::fresh);
    private static final Trace UNBEGUN = new Trace("unbegun", Scenes::unbegun);
    private static final Trace MIDST = new Trace("midst", Scenes::midst);
    private static final Trace OVER = new Trace("over", Scenes::over);
    private static final Trace FULL = new Trace("full", Scenes::full);
    private static final Trace LAST_DAY = new Trace("last day", Scenes::lastDay);
    private static final Trace[] ALL = {FRESH, UNBEGUN, MIDST, OVER, FULL, LAST_DAY};
    private static final Trace[] WITHOUT_WAR = {FRESH, UNBEGUN};
    private static final int MEN_OF_MIDST = 6;
    private static final int MEN_OF_FULL = 8;

    private RefusedTest() {
    }

    public static void main(String[] args) {
        checkScenes();
        refuseOfTape();
        refuseTexts();
        refuseMenAndOrchards();
        refuseLaws();
        refuseGoing();
        refuseStaying();
        refusePressing();
        refuseDays();
        refusePast();
        refuseDuels();
        refuseSides();
        refuseMen();
        refuseSleepers();
        refuseLetters();
        refuseOdds();
        refuseCounts();
        refuseWithoutWar();
        askOnly();
        Check.finish("RefusedTest");
    }

    /** The states are what the refusals below take them for. */
    private static void checkScenes() {
        LastHome x = Scenes.midst();
        int[] due = {6, 3, 2, 11, 1, 1, 4, 0, 36, 2, 5, 5};
        for (int what = 0; what < due.length; what++) {
            Check.same("midst count " + what, x.count(what), due[what]);
        }
        int[][] men = {{3, 0, 1, 0}, {6, 0, 0, 0}, {0, 0, 0, 1}, {8, 9, 0, 0}, {3, 1, 0, 0}, {0, 0, 0, 1}};
        for (int m = 0; m < men.length; m++) {
            Check.same("midst STEPS of " + m, x.man(m, 1), men[m][0]);
            Check.same("midst REST of " + m, x.man(m, 6), men[m][1]);
            Check.same("midst deed of " + m, x.man(m, 7), men[m][2]);
            Check.same("midst HOME " + m, x.man(m, 8), men[m][3]);
        }
        int[] most = {8, 6, 4, 240, 3, 62, 9, 1, 0, 10, 60, 40};
        LastHome y = Scenes.full();
        for (int what = 0; what < most.length; what++) {
            Check.same("full count " + what, y.count(what), most[what]);
        }
        Check.same("over", Scenes.over().won(), 0);
        Check.same("last day", Scenes.lastDay().count(5), 9999);
    }

    private static void refuseOfTape() {
        Trace longer = new Trace("239 bytes", () -> Check.fed(new LastHome(), "m;ms1" + " ".repeat(234)));
        longer.refuses("feed of two", x -> x.feed(0, 0x00200020, 0, 0, 0));
        longer.refuses("feed of twenty", x -> x.feed(-1, -1, -1, -1, -1));
        for (int shift = 0; shift < 32; shift += 8) {
            int one = 0x20 << shift;
            FULL.refuses("feed of a byte in a", x -> x.feed(one, 0, 0, 0, 0));
            FULL.refuses("feed of a byte in b", x -> x.feed(0, one, 0, 0, 0));
            FULL.refuses("feed of a byte in c", x -> x.feed(0, 0, one, 0, 0));
            FULL.refuses("feed of a byte in d", x -> x.feed(0, 0, 0, one, 0));
            FULL.refuses("feed of a byte in e", x -> x.feed(0, 0, 0, 0, one));
        }
        for (Trace scene : ALL) {
            scene.keeps("feed of nothing", x -> x.feed(0, 0, 0, 0, 0));
        }
        for (int n : Trace.outside(0, 0)) {
            FRESH.keeps("end " + n, x -> x.end(n) ? 1 : 0, 0);
        }
        for (int n : Trace.outside(0, 11)) {
            MIDST.keeps("end " + n, x -> x.end(n) ? 1 : 0, 0);
        }
        for (int n : Trace.outside(0, 240)) {
            FULL.keeps("end " + n, x -> x.end(n) ? 1 : 0, 0);
        }
        MIDST.keeps("end at its length", x -> x.end(11) ? 1 : 0, 1);
    }

    private static void refuseTexts() {
        for (int sort : Trace.outside(0, 1)) {
            for (Trace scene : ALL) {
                scene.keeps("fault " + sort, x -> x.fault(sort), -2);
                scene.refuses("text " + sort, x -> x.text(sort));
            }
        }
        FRESH.refuses("text 0 of nothing", x -> x.text(0));
        FRESH.refuses("text 1 of nothing", x -> x.text(1));
        UNBEGUN.refuses("a WAR as a LAW", x -> x.text(1));
        MIDST.refuses("a LAW as a WAR", x -> x.text(0));
        OVER.refuses("a WAR that ends too early", x -> x.text(0));
        FULL.keeps("no FAULT", x -> x.fault(1), Check.NONE);
        FULL.refuses("but there are four LAWS", x -> x.text(1));
        Trace oneSide = new Trace("a SIDE without any", () -> Check.fed(Scenes.midst(), "m;m;m;wg1"));
        oneSide.refuses("text 0", x -> x.text(0));
        Trace oneStep = new Trace("two ORCHARDS at one STEP", () -> Check.fed(Scenes.midst(), "m;ms1;ok2;o;ok2"));
        oneStep.refuses("text 0", x -> x.text(0));
        Trace oneMan = new Trace("one MAN", () -> Check.fed(Scenes.midst(), "ms1d2"));
        oneMan.refuses("text 0", x -> x.text(0));
        Trace tooDeep = new Trace("seven within one another", () -> Check.fed(Scenes.midst(), "y:[[[[[[[d]]]]]]]"));
        tooDeep.refuses("text 1", x -> x.text(1));
    }

    private static int threw(LastHome x, int man, int what) {
        return Check.throwsNoSuchElement(x, man, what) ? 1 : 0;
    }

    private static void refuseMenAndOrchards() {
        for (int m : Trace.outside(0, MEN_OF_MIDST - 1)) {
            MIDST.keeps("man " + m, x -> threw(x, m, 0), 1);
        }
        for (int m : Trace.outside(0, MEN_OF_FULL - 1)) {
            FULL.keeps("man " + m, x -> threw(x, m, 8), 1);
        }
        for (int what : Trace.outside(0, 8)) {
            MIDST.keeps("man 0 what " + what, x -> threw(x, 0, what), 1);
            FULL.keeps("man 7 what " + what, x -> threw(x, 7, what), 1);
        }
        for (int o : Trace.outside(0, 2)) {
            MIDST.refuses("orchard " + o, x -> x.orchard(o, 0));
            MIDST.refuses("days of orchard " + o, x -> x.orchard(o, 1));
        }
        for (int o : Trace.outside(0, 5)) {
            FULL.refuses("orchard " + o, x -> x.orchard(o, 1));
        }
        for (int what : Trace.outside(0, 1)) {
            MIDST.refuses("orchard 0 what " + what, x -> x.orchard(0, what));
            FULL.refuses("orchard 5 what " + what, x -> x.orchard(5, what));
        }
        Trace bare = new Trace("no ORCHARDS", () -> Check.war("m;ms1"));
        bare.refuses("orchard 0", x -> x.orchard(0, 0));
    }

    private static void refuseLaws() {
        for (int l : Trace.outside(-1, -1)) {
            FRESH.keeps("law " + l, x -> x.law(l) ? 1 : 0, 0);
            FRESH.refuses("loophole " + l, x -> x.loophole(l));
        }
        for (int l : Trace.outside(-1, 1)) {
            MIDST.keeps("law " + l, x -> x.law(l) ? 1 : 0, 0);
            UNBEGUN.keeps("law " + l, x -> x.law(l) ? 1 : 0, 0);
            MIDST.refuses("loophole " + l, x -> x.loophole(l));
        }
        for (int l : Trace.outside(-1, 3)) {
            FULL.keeps("law " + l, x -> x.law(l) ? 1 : 0, 0);
            FULL.refuses("loophole " + l, x -> x.loophole(l));
        }
        MIDST.refuses("loophole -1", x -> x.loophole(-1));
        UNBEGUN.refuses("loophole without WAR", x -> x.loophole(0));
        OVER.refuses("closed without LAW", LastHome::closed);
        Trace all = new Trace("a LAW by which all are HOME", () -> {
            LastHome x = Check.war("md2;ms1d3");
            Check.law(x, "y:1");
            return x;
        });
        all.refuses("not by all", LastHome::closed);
    }

    /** NONE: no such one, HOME, no STEPS to go, he did a deed, it is over. */
    private static void refuseGoing() {
        noSuchMan("go", (x, m) -> x.go(m));
        MIDST.refuses("go of one who is HOME", x -> x.go(2));
        MIDST.refuses("go of one who did a deed", x -> x.go(0));
        OVER.refuses("go when it is over", x -> x.go(0));
        OVER.refuses("go of one who is HOME when it is over", x -> x.go(2));
        Trace atBed = new Trace("not HOME without STEPS", RefusedTest::notHomeWithoutSteps);
        atBed.refuses("go without STEPS", x -> x.go(0));
    }

    /** MAN 0 has no STEPS to go and is not HOME; MAN 1 is HOME with STEPS to go and a REST. */
    private static LastHome notHomeWithoutSteps() {
        LastHome x = Check.war("md0;md3b1;ms1d3v2;ms1d0;o");
        Check.law(x, "y:b");
        x.law(0);
        return x;
    }

    /** NONE: no such one, HOME, no REST, he did a deed, it is over. */
    private static void refuseStaying() {
        noSuchMan("stay", (x, m) -> x.stay(m));
        MIDST.refuses("stay of one who is HOME", x -> x.stay(5));
        MIDST.refuses("stay without REST", x -> x.stay(1));
        MIDST.refuses("stay of one who did a deed", x -> x.stay(0));
        OVER.refuses("stay when it is over", x -> x.stay(1));
        Trace atBed = new Trace("HOME with a REST", RefusedTest::notHomeWithoutSteps);
        atBed.refuses("stay of one who is HOME with a REST", x -> x.stay(1));
        atBed.refuses("stay without STEPS or REST", x -> x.stay(0));
        Trace deed = new Trace("a deed and a REST", () -> {
            LastHome x = Check.war("md3;ms1d3;o");
            x.stay(0);
            return x;
        });
        deed.refuses("stay of one who did a deed, with a REST", x -> x.stay(0));
        deed.refuses("press of one who did a deed, with a REST", x -> x.press(0, 1));
        deed.refuses("go of one who did a deed, with a REST", x -> x.go(0));
    }

    /**
     * NONE: no such ones, alike, HOME, not the other SIDE (but ALLIED), no REST, he did a deed, the other one has no
     * STEPS to go, it is over.
     */
    private static void refusePressing() {
        for (int m : Trace.outside(0, MEN_OF_MIDST - 1)) {
            MIDST.refuses("press " + m + " 0", x -> x.press(m, 0));
            MIDST.refuses("press 4 " + m, x -> x.press(4, m));
            MIDST.refuses("press twice " + m, x -> x.press(m, m));
        }
        for (int m : Trace.outside(0, MEN_OF_FULL - 1)) {
            FULL.refuses("press " + m + " 0", x -> x.press(m, 0));
            FULL.refuses("press 7 " + m, x -> x.press(7, m));
        }
        for (int m = 0; m < MEN_OF_MIDST; m++) {
            int man = m;
            MIDST.refuses("press alike " + m, x -> x.press(man, man));
        }
        for (int m = 0; m < MEN_OF_FULL; m++) {
            int man = m;
            FULL.refuses("press alike, ALLIED " + m, x -> x.press(man, man));
        }
        MIDST.refuses("press by one who is HOME", x -> x.press(2, 3));
        MIDST.refuses("press of one who is HOME", x -> x.press(4, 2));
        MIDST.refuses("press of one of his own SIDE", x -> x.press(4, 3));
        MIDST.refuses("press without REST", x -> x.press(1, 3));
        MIDST.refuses("press by one who did a deed", x -> x.press(0, 3));
        OVER.refuses("press when it is over", x -> x.press(1, 0));
        Trace atBed = new Trace("not HOME without STEPS", RefusedTest::notHomeWithoutSteps);
        atBed.refuses("press of one who has no STEPS to go", x -> x.press(2, 0));
        atBed.refuses("press of one who is HOME with STEPS to go", x -> x.press(2, 1));
        atBed.refuses("press by one who is HOME with a REST", x -> x.press(1, 2));
        atBed.refuses("press by one without STEPS", x -> x.press(0, 2));
    }

    private static void refuseDays() {
        for (Trace scene : WITHOUT_WAR) {
            scene.refuses("evening without WAR", LastHome::evening);
            scene.refuses("march without WAR", x -> x.march(1, 1L));
        }
        OVER.refuses("evening when it is over", LastHome::evening);
        OVER.refuses("march when it is over", x -> x.march(1, 1L));
        LAST_DAY.refuses("evening on the last DAY", LastHome::evening);
        LAST_DAY.refuses("march on the last DAY", x -> x.march(1, 1L));
        for (int n : Trace.outside(1, 60)) {
            MIDST.refuses("march " + n, x -> x.march(n, 5L));
            FULL.refuses("march " + n, x -> x.march(n, -5L));
            OVER.refuses("march " + n, x -> x.march(n, 0L));
        }
        MIDST.refuses("march 0", x -> x.march(0, 5L));
        Trace nearEnd = new Trace("two DAYS left", () -> {
            LastHome x = Scenes.lastDay();
            x.undo();
            x.undo();
            return x;
        });
        for (int n = 3; n <= 60; n += 19) {
            int days = n;
            nearEnd.refuses("march beyond the last DAY by " + n, x -> x.march(days, 1L));
        }
        Check.same("march to the last DAY", Scenes.lastDay().march(1, 1L), Check.NONE);
    }

    private static void refusePast() {
        for (Trace scene : WITHOUT_WAR) {
            scene.refuses("undo without WAR", LastHome::undo);
            scene.refuses("back without WAR", LastHome::back);
            scene.refuses("image without WAR", LastHome::image);
        }
        Trace begun = new Trace("a WAR just begun", () -> Check.war(Scenes.midst(), "md3;ms1d2;o"));
        begun.refuses("undo with no ACT", LastHome::undo);
        begun.refuses("back with no IMAGE of this WAR", LastHome::back);
        Trace brought = new Trace("BACK", () -> {
            LastHome x = Scenes.midst();
            x.back();
            return x;
        });
        brought.refuses("undo behind BACK", LastHome::undo);
        OVER.refuses("back without IMAGE", LastHome::back);
        for (Trace scene : WITHOUT_WAR) {
            scene.keeps("log 0", x -> x.log(0, 0), Check.HIDDEN);
        }
        for (int i : Trace.outside(0, 4)) {
            MIDST.keeps("log " + i, x -> x.log(i, 0), Check.HIDDEN);
        }
        for (int i : Trace.outside(0, 59)) {
            FULL.keeps("log " + i, x -> x.log(i, 1), Check.HIDDEN);
        }
        for (int what : Trace.outside(0, 2)) {
            MIDST.keeps("log 0 what " + what, x -> x.log(0, what), Check.HIDDEN);
            FULL.keeps("log 59 what " + what, x -> x.log(59, what), Check.HIDDEN);
        }
    }

    /** NONE: no such ones, alike, one has no STEPS to go. */
    private static void refuseDuels() {
        for (int m : Trace.outside(0, MEN_OF_MIDST - 1)) {
            MIDST.refuses("duel " + m + " 0", x -> x.duel(m, 0, 0));
            MIDST.refuses("duel 0 " + m, x -> x.duel(0, m, 1));
            MIDST.refuses("treaty " + m + " 0", x -> x.treaty(m, 0));
            MIDST.refuses("treaty 0 " + m, x -> x.treaty(0, m));
        }
        for (int m : Trace.outside(0, MEN_OF_FULL - 1)) {
            FULL.refuses("duel " + m + " 0", x -> x.duel(m, 0, 0));
            FULL.refuses("treaty 0 " + m, x -> x.treaty(0, m));
        }
        for (int what : Trace.outside(0, 2)) {
            MIDST.refuses("duel what " + what, x -> x.duel(0, 3, what));
            FULL.refuses("duel what " + what, x -> x.duel(0, 7, what));
        }
        for (int m = 0; m < MEN_OF_MIDST; m++) {
            int man = m;
            MIDST.refuses("duel alike " + m, x -> x.duel(man, man, 0));
            MIDST.refuses("treaty alike " + m, x -> x.treaty(man, man));
            MIDST.refuses("duel with one who has no STEPS to go", x -> x.duel(man, 5, 0));
            MIDST.refuses("duel of one who has no STEPS to go", x -> x.duel(2, man, 2));
            MIDST.refuses("treaty with one who has no STEPS to go", x -> x.treaty(man, 5));
            MIDST.refuses("treaty of one who has no STEPS to go", x -> x.treaty(2, man));
        }
        for (Trace scene : WITHOUT_WAR) {
            scene.refuses("duel without WAR", x -> x.duel(0, 1, 0));
            scene.refuses("treaty without WAR", x -> x.treaty(0, 1));
        }
    }

    private interface BySide {
        int ask(LastHome x, int side);
    }

    private static void noSuchSide(String call, BySide asked) {
        for (int side : Trace.outside(0, 1)) {
            for (Trace scene : ALL) {
                scene.refuses(call + " " + side, x -> asked.ask(x, side));
            }
        }
        for (Trace scene : WITHOUT_WAR) {
            scene.refuses(call + " 0 without WAR", x -> asked.ask(x, 0));
            scene.refuses(call + " 1 without WAR", x -> asked.ask(x, 1));
        }
    }

    private static void refuseSides() {
        noSuchSide("champion", (x, side) -> x.champion(side));
        noSuchSide("escorts 0", (x, side) -> x.escorts(side, 0));
        noSuchSide("escorts 1", (x, side) -> x.escorts(side, 1));
        noSuchSide("soonest", (x, side) -> x.soonest(side));
        noSuchSide("pony", (x, side) -> x.pony(side));
        noSuchSide("hurry", (x, side) -> x.hurry(side, 3));
        noSuchSide("behind", (x, side) -> x.behind(side));
        noSuchSide("victors", (x, side) -> x.victors(side));
        for (int what : Trace.outside(0, 1)) {
            for (Trace scene : ALL) {
                scene.refuses("escorts what " + what, x -> x.escorts(0, what));
            }
        }
        OVER.refuses("champion of a SIDE where nobody has STEPS to go", x -> x.champion(1));
        OVER.refuses("hurry of a SIDE where nobody has STEPS to go", x -> x.hurry(1, 3));
    }

    private interface ByMan {
        int ask(LastHome x, int man);
    }

    private static void noSuchMan(String call, ByMan asked) {
        for (int m : Trace.outside(0, MEN_OF_MIDST - 1)) {
            MIDST.refuses(call + " " + m, x -> asked.ask(x, m));
        }
        for (int m : Trace.outside(0, MEN_OF_FULL - 1)) {
            FULL.refuses(call + " " + m, x -> asked.ask(x, m));
        }
        for (Trace scene : WITHOUT_WAR) {
            scene.refuses(call + " without WAR", x -> asked.ask(x, 0));
        }
    }

    private static void refuseMen() {
        noSuchMan("reads", (x, m) -> x.reads(m));
        noSuchMan("away", (x, m) -> x.away(m));
        noSuchMan("forced", (x, m) -> x.forced(m));
        noSuchMan("odds", (x, m) -> x.odds(m, 3));
        noSuchMan("next", (x, m) -> x.next(m));
        noSuchMan("ahead", (x, m) -> x.ahead(m));
        noSuchMan("meeting with 0", (x, m) -> x.meeting(m, 0));
        noSuchMan("meeting of 0", (x, m) -> x.meeting(0, m));
        noSuchMan("meeting of none", (x, m) -> x.meeting(m, m));
        Trace atHome = new Trace("all are HOME", () -> Check.war("md0;ms1d0"));
        atHome.refuses("weary", LastHome::weary);
        atHome.refuses("next of one without STEPS", x -> x.next(0));
    }

    private static void refuseSleepers() {
        for (int m : Trace.outside(0, MEN_OF_MIDST - 1)) {
            MIDST.keeps("gets " + m, x -> x.gets(m, 0), Check.HIDDEN);
        }
        for (int m : Trace.outside(0, MEN_OF_FULL - 1)) {
            FULL.keeps("gets " + m, x -> x.gets(m, 255), Check.HIDDEN);
        }
        for (int set : Trace.outside(0, 63)) {
            MIDST.keeps("gets by " + set, x -> x.gets(0, set), Check.HIDDEN);
        }
        for (int set : Trace.outside(0, 255)) {
            FULL.keeps("gets by " + set, x -> x.gets(7, set), Check.HIDDEN);
        }
        for (Trace scene : WITHOUT_WAR) {
            scene.keeps("gets without WAR", x -> x.gets(0, 0), Check.HIDDEN);
            scene.refuses("resting without WAR", x -> x.resting(-1));
            scene.refuses("resting without WAR", x -> x.resting(0));
        }
        refuseBeyond(MIDST, "resting", Scenes.midst().resting(-1), (x, i) -> x.resting(i));
        refuseBeyond(FULL, "resting", Scenes.full().resting(-1), (x, i) -> x.resting(i));
    }

    private interface ByPlace {
        int ask(LastHome x, int i);
    }

    private static void refuseBeyond(Trace scene, String call, int many, ByPlace asked) {
        for (int i : Trace.outside(-1, many - 1)) {
            scene.refuses(call + " " + i, x -> asked.ask(x, i));
        }
    }

    private static void refuseLetters() {
        for (Trace scene : ALL) {
            for (int k : Trace.outside(0, 20)) {
                scene.refuses("letter " + k, x -> x.letter(k, 1));
            }
            for (int many : Trace.outside(0, 3)) {
                scene.refuses("letter of many " + many, x -> x.letter(3, many));
            }
            for (int n : Trace.outside(1, 3)) {
                scene.refuses("fit " + n, x -> x.fit(n, -1));
                scene.refuses("fit " + n + " 0", x -> x.fit(n, 0));
                scene.refuses("ask " + n, x -> x.ask(n, 0));
                scene.refuses("sure " + n, x -> x.sure(n));
            }
            for (int what : Trace.outside(0, 1)) {
                scene.refuses("ask what " + what, x -> x.ask(1, what));
            }
        }
        FULL.refuses("an eleventh letter", x -> x.letter(0, 0));
        FULL.refuses("an eleventh letter", x -> x.letter(20, 3));
        IntUnaryOperator fits = n -> Scenes.midst().fit(n, -1);
        for (int n = 1; n <= 3; n++) {
            int men = n;
            refuseBeyond(MIDST, "fit " + n, fits.applyAsInt(n), (x, i) -> x.fit(men, i));
            refuseBeyond(FRESH, "fit " + n, Scenes.fresh().fit(n, -1), (x, i) -> x.fit(men, i));
        }
        for (int n = 1; n <= 2; n++) {
            int men = n;
            FULL.keeps("nothing fits", x -> x.fit(men, -1), 0);
            FULL.refuses("no row then", x -> x.fit(men, 0));
            FULL.refuses("ask 0 then", x -> x.ask(men, 0));
            FULL.refuses("ask 1 then", x -> x.ask(men, 1));
            FULL.refuses("sure then", x -> x.sure(men));
        }
    }

    private static void refuseOdds() {
        for (int n : Trace.outside(0, 40)) {
            for (Trace scene : ALL) {
                scene.refuses("odds behind " + n, x -> x.odds(0, n));
                scene.refuses("hurry behind " + n, x -> x.hurry(0, n));
            }
        }
    }

    private static void refuseCounts() {
        for (int what : Trace.outside(0, 11)) {
            for (Trace scene : ALL) {
                scene.keeps("count " + what, x -> x.count(what), Check.HIDDEN);
            }
        }
    }

    private static void refuseWithoutWar() {
        for (Trace scene : WITHOUT_WAR) {
            scene.refuses("won", LastHome::won);
            scene.refuses("closed", LastHome::closed);
            scene.refuses("last", LastHome::last);
            scene.refuses("even", LastHome::even);
            scene.refuses("weary", LastHome::weary);
            scene.refuses("orchard", x -> x.orchard(0, 0));
            scene.keeps("man", x -> threw(x, 0, 0), 1);
        }
        MIDST.refuses("won when it is not over", LastHome::won);
    }

    /** Calls that ask and are answered leave all as it is. */
    private static void askOnly() {
        for (Trace scene : ALL) {
            scene.keeps("what is so", x -> x.won() + x.fault(0) + x.fault(1) + x.count(8) + x.orchard(0, 1) + x.log(0, 0));
            scene.keeps("duels", x -> x.duel(0, 1, 0) + x.duel(1, 0, 1) + x.duel(0, 1, 2) + x.treaty(0, 1));
            scene.keeps("champions", x -> x.champion(0) + x.champion(1) + x.victors(0) + x.victors(1));
            scene.keeps("escorts", x -> x.escorts(0, 0) + x.escorts(0, 1) + x.escorts(1, 0) + x.escorts(1, 1));
            scene.keeps("laws", x -> x.loophole(0) + x.loophole(1) + x.closed() + x.reads(0));
            scene.keeps("ways", x -> x.away(0) + x.forced(0) + x.next(0) + x.ahead(0) + x.meeting(0, 1));
            scene.keeps("sides", x -> x.soonest(0) + x.pony(1) + x.behind(0) + x.last() + x.even() + x.weary());
            scene.keeps("sleepers", x -> x.gets(0, 1) + x.resting(-1) + x.resting(0));
            scene.keeps("letters", x -> x.fit(2, -1) + x.fit(3, 0) + x.ask(3, 0) + x.ask(2, 1) + x.sure(3));
            scene.keeps("odds", x -> x.odds(0, 40) + x.hurry(0, 40) + x.hurry(1, 0));
        }
    }
}
