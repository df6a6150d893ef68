import java.util.NoSuchElementException;

/** Won on the march home: who of two SIDES is HOME last; ../shared/DOC.md tells the promises. */
public final class LastHome {
    public static final int NONE = -1;
    public static final int HIDDEN = -1000000;

    private static final int NO_SUCH_SORT = -2;
    private static final int LAST_DAY = 9999;
    private static final int MOST_DAYS_OF_MARCH = 60;
    private static final int MOST_DAYS_OF_ODDS = 40;
    private static final int MOST_DAYS_OF_TREATY = 9;
    private static final int ALL_PARTS = 1000000000;
    private static final int GONE = 0;
    private static final int STAYED = 1;
    private static final int PRESSED = 2;
    private static final int ENDED = 3;
    private static final long DRAW_FACTOR = 6364136223846793005L;
    private static final long DRAW_SUMMAND = 1442695040888963407L;

    private final Tape tape;
    private final War war;
    private final War draft;
    private final WarText warText;
    private final LawText lawText;
    private final Laws laws;
    private final Road road;
    private final Logbook logbook;
    private final Past past;
    private final Duels duels;
    private final Escorts escortRows;
    private final Letters letters;
    private final long[] parts;
    private final int[] wins;
    private long chance;

    public LastHome() {
        tape = new Tape();
        war = new War();
        draft = new War();
        warText = new WarText(tape, draft);
        lawText = new LawText(tape);
        laws = new Laws();
        road = new Road(war, laws);
        logbook = new Logbook();
        past = new Past();
        duels = new Duels();
        escortRows = new Escorts(war, road);
        letters = new Letters();
        parts = new long[War.FARTHEST + 1];
        wins = new int[War.MOST_MEN];
        chance = 0;
    }

    // ---- the TAPE and the TEXTS

    public int feed(int a, int b, int c, int d, int e) {
        int more = Tape.bytesIn(a) + Tape.bytesIn(b) + Tape.bytesIn(c) + Tape.bytesIn(d) + Tape.bytesIn(e);
        if (tape.length + more > Tape.MOST) {
            return NONE;
        }
        tape.put(a);
        tape.put(b);
        tape.put(c);
        tape.put(d);
        tape.put(e);
        return tape.length;
    }

    public boolean end(int n) {
        if (n < 0 || n > tape.length) {
            return false;
        }
        tape.length = n;
        return true;
    }

    public int fault(int sort) {
        if (sort == 0) {
            return warText.read();
        }
        return sort == 1 ? lawText.read() : NO_SUCH_SORT;
    }

    public int text(int sort) {
        if (sort == 0) {
            return beginWar();
        }
        if (sort != 1 || laws.count >= Laws.MOST || lawText.read() != NONE) {
            return NONE;
        }
        laws.add(lawText);
        tape.length = 0;
        return laws.count - 1;
    }

    private int beginWar() {
        if (warText.read() != NONE) {
            return NONE;
        }
        war.take(draft);
        duels.layOut(war);
        road.begin();
        logbook.clear();
        past.clear();
        letters.count = 0;
        tape.length = 0;
        return war.men;
    }

    // ---- what is so now

    public int man(int man, int what) throws NoSuchElementException {
        if (!war.hasMan(man)) {
            throw new NoSuchElementException("no such man");
        }
        switch (what) {
            case 0: return war.side[man];
            case 1: return road.steps[man];
            case 2: return war.speed[man];
            case 3: return war.bed[man];
            case 4: return war.need[man];
            case 5: return war.ill[man];
            case 6: return road.rests[man];
            case 7: return road.didDeed(man) ? 1 : 0;
            case 8: return road.isHome(man) ? 1 : 0;
            default: throw new NoSuchElementException("no such thing of a man");
        }
    }

    public int orchard(int orchard, int what) {
        if (orchard < 0 || orchard >= war.orchards || orchard >= War.MOST_ORCHARDS) {
            return NONE;
        }
        if (what == 0) {
            return war.place[orchard];
        }
        return what == 1 ? war.days[orchard] : NONE;
    }

    public boolean law(int law) {
        if (law != NONE && !laws.has(law)) {
            return false;
        }
        laws.held = law;
        road.lookAtAll();
        return true;
    }

    public int won() {
        return road.winner();
    }

    public int count(int what) {
        switch (what) {
            case 0: return war.men;
            case 1: return war.orchards;
            case 2: return laws.count;
            case 3: return tape.length;
            case 4: return laws.held;
            case 5: return road.day;
            case 6: return war.pay;
            case 7: return war.allied;
            case 8: return road.home;
            case 9: return letters.count;
            case 10: return logbook.length();
            case 11: return past.acts;
            default: return HIDDEN;
        }
    }

    // ---- ACTS

    public int go(int man) {
        if (!road.mayAct(man) || !road.canGo(man)) {
            return NONE;
        }
        past.keepAct(road, logbook);
        doGo(man);
        return road.steps[man];
    }

    public int stay(int man) {
        if (!road.mayAct(man) || !road.hasRest(man)) {
            return NONE;
        }
        past.keepAct(road, logbook);
        doStay(man);
        return road.rests[man];
    }

    public int press(int man, int other) {
        if (!road.mayAct(man) || !war.hasMan(other) || !road.canPress(man, other)) {
            return NONE;
        }
        past.keepAct(road, logbook);
        doPress(man, other);
        return road.steps[other];
    }

    private void doGo(int man) {
        road.move(man, 1);
        road.markDeed(man);
        logbook.add(GONE, man, NONE);
    }

    private void doStay(int man) {
        road.spendRest(man);
        road.markDeed(man);
        logbook.add(STAYED, man, NONE);
    }

    private void doPress(int man, int other) {
        road.spendRest(man);
        road.move(other, war.speed[man]);
        road.markDeed(man);
        logbook.add(PRESSED, man, other);
    }

    public int evening() {
        if (war.men == 0 || road.isOver() || road.day >= LAST_DAY) {
            return NONE;
        }
        past.keepAct(road, logbook);
        for (int m = 0; m < war.men && !road.isOver(); m++) {
            if (!road.isHome(m) && !road.didDeed(m) && road.canGo(m)) {
                road.move(m, 1);
            }
        }
        endDay();
        return road.day;
    }

    private void endDay() {
        road.beginNextDay();
        logbook.add(ENDED, NONE, NONE);
    }

    public int march(int n, long seed) {
        if (war.men == 0 || n < 1 || n > MOST_DAYS_OF_MARCH) {
            return NONE;
        }
        if (road.isOver() || road.day + n > LAST_DAY) {
            return NONE;
        }
        chance = seed;
        for (int d = 0; d < n && !road.isOver(); d++) {
            past.keepAct(road, logbook);
            for (int m = 0; m < war.men && !road.isOver(); m++) {
                if (!road.isHome(m) && !road.didDeed(m)) {
                    marchOneMan(m);
                }
            }
            endDay();
        }
        return road.day;
    }

    private void marchOneMan(int man) {
        if (draw(10) < war.ill[man]) {
            return;
        }
        int deed = draw(3);
        if (deed == GONE && road.canGo(man)) {
            doGo(man);
        }
        if (deed == STAYED && road.hasRest(man)) {
            doStay(man);
        }
        int other = deed == PRESSED ? road.lowestToPress(man) : NONE;
        if (other != NONE) {
            doPress(man, other);
        }
    }

    private int draw(int of) {
        chance = chance * DRAW_FACTOR + DRAW_SUMMAND;
        return of <= 0 ? 0 : (int) ((chance >>> 33) % of);
    }

    public int undo() {
        if (past.acts == 0) {
            return NONE;
        }
        past.undoAct(road, logbook);
        return past.acts;
    }

    public int log(int i, int what) {
        if (i < 0 || i >= logbook.length()) {
            return HIDDEN;
        }
        int line = logbook.line(i);
        switch (what) {
            case 0: return Logbook.whatOf(line);
            case 1: return Logbook.whoOf(line);
            case 2: return Logbook.whomOf(line);
            default: return HIDDEN;
        }
    }

    public int image() {
        if (war.men == 0) {
            return NONE;
        }
        past.keepImage(road, logbook);
        return road.day;
    }

    public int back() {
        if (!past.hasImage) {
            return NONE;
        }
        past.bringImageBack(road, logbook);
        return road.day;
    }

    // ---- DUELS

    public int duel(int first, int other, int what) {
        if (!mayDuel(first, other) || what < 0 || what > 2) {
            return NONE;
        }
        makeDuelReady(first, other);
        int mine = placeOf(first);
        int yours = placeOf(other);
        if (what == 0) {
            return duels.isWon(mine, yours) ? 1 : 0;
        }
        return what == 1 ? duels.turns(mine, yours) : duels.deed(mine, yours);
    }

    public int treaty(int first, int other) {
        if (!mayDuel(first, other)) {
            return NONE;
        }
        makeDuelReady(first, other);
        int mine = placeOf(first);
        int yours = placeOf(other);
        boolean winsNow = duels.isWon(mine, yours);
        int most = Math.min(MOST_DAYS_OF_TREATY, Math.min(road.rests[first], road.rests[other]));
        int kept = 0;
        for (int n = 1; n <= most && duels.isWon(mine - n, yours - n) == winsNow; n++) {
            kept = n;
        }
        return kept;
    }

    public int champion(int side) {
        if (!isSideOfWar(side)) {
            return NONE;
        }
        countWins(side);
        int best = NONE;
        for (int m = 0; m < war.men; m++) {
            if (war.side[m] == side && road.canGo(m) && (best == NONE || wins[m] > wins[best])) {
                best = m;
            }
        }
        return best;
    }

    public int victors(int side) {
        if (!isSideOfWar(side)) {
            return NONE;
        }
        countWins(side);
        int foes = 0;
        for (int m = 0; m < war.men; m++) {
            foes += war.side[m] != side && road.canGo(m) ? 1 : 0;
        }
        int bits = 0;
        for (int m = 0; m < war.men; m++) {
            if (war.side[m] == side && road.canGo(m) && foes > 0 && wins[m] == foes) {
                bits |= 1 << m;
            }
        }
        return bits;
    }

    /** Goes by SPEEDS, not by MEN, so that each table of DUELS is made once. */
    private void countWins(int side) {
        for (int m = 0; m < wins.length; m++) {
            wins[m] = 0;
        }
        for (int mine = 1; mine <= War.FASTEST; mine++) {
            for (int yours = 1; yours <= War.FASTEST; yours++) {
                countWinsOfSpeeds(side, mine, yours);
            }
        }
    }

    private void countWinsOfSpeeds(int side, int mine, int yours) {
        for (int m = 0; m < war.men; m++) {
            boolean fights = war.side[m] == side && war.speed[m] == mine && road.canGo(m);
            for (int o = 0; fights && o < war.men; o++) {
                if (war.side[o] != side && war.speed[o] == yours && road.canGo(o)) {
                    makeDuelReady(m, o);
                    wins[m] += duels.isWon(placeOf(m), placeOf(o)) ? 1 : 0;
                }
            }
        }
    }

    private boolean mayDuel(int first, int other) {
        return war.hasMan(first) && war.hasMan(other) && first != other && road.canGo(first) && road.canGo(other);
    }

    private int placeOf(int man) {
        return duels.place(road.steps[man], road.rests[man]);
    }

    private void makeDuelReady(int first, int other) {
        int mine = war.speed[first];
        int yours = war.speed[other];
        duels.prepare(mine, yours, farthestPlace(mine), farthestPlace(yours));
    }

    private int farthestPlace(int speed) {
        int far = 0;
        for (int m = 0; m < war.men; m++) {
            if (war.speed[m] == speed) {
                far = Math.max(far, placeOf(m));
            }
        }
        return far;
    }

    // ---- ESCORTS and LAWS

    public int escorts(int side, int what) {
        if (!isSideOfWar(side) || what < 0 || what > 1) {
            return NONE;
        }
        escortRows.gather(side);
        return what == 0 ? escortRows.most() : escortRows.leastRow();
    }

    public int loophole(int law) {
        return laws.has(law) && war.men > 0 ? loopholeBits(law) : NONE;
    }

    private int loopholeBits(int law) {
        int bits = 0;
        for (int m = 0; m < war.men; m++) {
            if (road.canGo(m) && road.isHomeBy(law, m)) {
                bits |= 1 << m;
            }
        }
        return bits;
    }

    public int closed() {
        if (war.men == 0 || laws.count == 0) {
            return NONE;
        }
        for (int l = 0; l < laws.count; l++) {
            laws.through[l] = loopholeBits(l);
        }
        int best = NONE;
        for (int set = 1; set < 1 << laws.count; set++) {
            boolean fewer = best == NONE || Integer.bitCount(set) < Integer.bitCount(best);
            if (fewer && laws.throughAll(set) == 0) {
                best = set;
            }
        }
        return best;
    }

    public int reads(int man) {
        if (!war.hasMan(man)) {
            return NONE;
        }
        int bits = 0;
        for (int l = 0; l < laws.count; l++) {
            if (road.isHomeBy(l, man)) {
                bits |= 1 << l;
            }
        }
        return bits;
    }

    // ---- ways

    public int away(int man) {
        if (!war.hasMan(man)) {
            return NONE;
        }
        int most = road.steps[man] + road.rests[man];
        for (int o = 0; o < war.orchards; o++) {
            most += war.place[o] < road.steps[man] ? war.days[o] : 0;
        }
        return most;
    }

    public int forced(int man) {
        if (!war.hasMan(man)) {
            return NONE;
        }
        int left = road.steps[man];
        int gone = 0;
        // His own STEP alone brings him there within as many DAYS as there are STEPS.
        for (int d = 1; d <= War.FARTHEST && left > 0; d++) {
            left -= 1 + pressOnDay(man, d);
            gone = d;
        }
        return gone;
    }

    private int pressOnDay(int man, int day) {
        int sum = 0;
        for (int o = 0; o < war.men; o++) {
            if (war.side[o] != war.side[man] && road.rests[o] >= day) {
                sum += war.speed[o];
            }
        }
        return sum;
    }

    public int soonest(int side) {
        int far = pony(side);
        return far == NONE ? NONE : road.steps[far];
    }

    public int pony(int side) {
        if (!isSideOfWar(side)) {
            return NONE;
        }
        return farthest(war.sideBits[side]);
    }

    public int last() {
        return war.men == 0 ? NONE : farthest(war.allBits());
    }

    private int farthest(int among) {
        int best = NONE;
        for (int m = 0; m < war.men; m++) {
            if ((among >> m & 1) != 0 && (best == NONE || road.steps[m] > road.steps[best])) {
                best = m;
            }
        }
        return best;
    }

    public int behind(int side) {
        return isSideOfWar(side) ? war.sideBits[side] & ~road.home : NONE;
    }

    public int next(int man) {
        if (!war.hasMan(man)) {
            return NONE;
        }
        int best = NONE;
        for (int o = 0; o < war.orchards; o++) {
            if (war.place[o] < road.steps[man] && (best == NONE || war.place[o] > war.place[best])) {
                best = o;
            }
        }
        return best;
    }

    public int ahead(int man) {
        if (!war.hasMan(man)) {
            return NONE;
        }
        int bits = 0;
        for (int o = 0; o < war.orchards; o++) {
            if (war.place[o] < road.steps[man]) {
                bits |= 1 << o;
            }
        }
        return bits;
    }

    public int even() {
        if (war.men == 0) {
            return NONE;
        }
        int balance = 0;
        for (int m = 0; m < war.men; m++) {
            balance += war.side[m] == 0 ? road.steps[m] : -road.steps[m];
        }
        return balance == 0 ? 1 : 0;
    }

    public int meeting(int one, int other) {
        if (!war.hasMan(one) || !war.hasMan(other)) {
            return NONE;
        }
        return Math.abs(road.steps[one] - road.steps[other]);
    }

    public int weary() {
        int best = NONE;
        for (int m = 0; m < war.men; m++) {
            if (!road.isHome(m) && (best == NONE || war.need[m] > war.need[best])) {
                best = m;
            }
        }
        return best;
    }

    private boolean isSideOfWar(int side) {
        return war.men > 0 && (side == 0 || side == 1);
    }

    // ---- EACH FOR HIMSELF

    public int gets(int man, int asleep) {
        return war.hasMan(man) && war.hasSet(asleep) ? war.share(man, asleep) : HIDDEN;
    }

    public int resting(int i) {
        if (war.men == 0 || i < NONE) {
            return NONE;
        }
        int found = 0;
        for (int set = 0; set <= war.allBits(); set++) {
            if (war.isAtRest(set)) {
                if (found == i) {
                    return set;
                }
                found++;
            }
        }
        return i == NONE ? found : NONE;
    }

    // ---- LETTERS

    public int letter(int k, int many) {
        return letters.add(k, many) ? letters.count : NONE;
    }

    public int fit(int n, int i) {
        if (!Letters.isSize(n) || i < NONE) {
            return NONE;
        }
        int found = 0;
        letters.beginRows();
        for (int r = 0; r < Letters.MOST_ROWS; r++) {
            if (letters.rowFits(n)) {
                if (found == i) {
                    return letters.rowNumber(n);
                }
                found++;
            }
            if (!letters.nextRow(n)) {
                break;
            }
        }
        return i == NONE ? found : NONE;
    }

    public int ask(int n, int what) {
        if (!Letters.isSize(n) || what < 0 || what > 1) {
            return NONE;
        }
        if (letters.tally(n) == 0) {
            return NONE;
        }
        int best = letters.bestQuestion();
        return what == 0 ? best : letters.mostFrequent(best);
    }

    public int sure(int n) {
        if (!Letters.isSize(n)) {
            return NONE;
        }
        return letters.tally(n) == 0 ? NONE : letters.inAllRows;
    }

    // ---- sickness

    public int odds(int man, int n) {
        if (!war.hasMan(man) || !isOddsSpan(n)) {
            return NONE;
        }
        return partsAtHome(man, n);
    }

    public int hurry(int side, int n) {
        if (!isSideOfWar(side) || !isOddsSpan(n)) {
            return NONE;
        }
        int best = NONE;
        int most = 0;
        for (int m = 0; m < war.men; m++) {
            if (war.side[m] == side && road.canGo(m)) {
                int here = partsAtHome(m, n);
                if (best == NONE || here > most) {
                    best = m;
                    most = here;
                }
            }
        }
        return best;
    }

    private static boolean isOddsSpan(int n) {
        return n >= 0 && n <= MOST_DAYS_OF_ODDS;
    }

    private int partsAtHome(int man, int n) {
        for (int s = 0; s < parts.length; s++) {
            parts[s] = s == road.steps[man] ? ALL_PARTS : 0;
        }
        for (int d = 0; d < n; d++) {
            // From the least on, so that what comes to a STEP today goes on no sooner than tomorrow.
            for (int s = 1; s < parts.length; s++) {
                long ill = parts[s] * war.ill[man] / 10;
                parts[s - 1] += parts[s] - ill;
                parts[s] = ill;
            }
        }
        return (int) parts[0];
    }

    /** The bytes that were fed; they are told as numbers 0 .. 255. */
    private static final class Tape {
        static final int MOST = 240;
        private static final int BLANK = 32;
        private final int[] bytes = new int[MOST];
        int length = 0;

        static int bytesIn(int number) {
            int some = 0;
            for (int shift = 24; shift >= 0; shift -= 8) {
                some += (number >>> shift & 255) != 0 ? 1 : 0;
            }
            return some;
        }

        void put(int number) {
            for (int shift = 24; shift >= 0; shift -= 8) {
                int sign = number >>> shift & 255;
                if (sign != 0 && length >= 0 && length < bytes.length) {
                    bytes[length] = sign;
                    length++;
                }
            }
        }

        /** The byte there, NONE behind the end. */
        int at(int i) {
            return i >= 0 && i < length && i < bytes.length ? bytes[i] : NONE;
        }

        /** The first place from there on that is no blank (the length, if all are). */
        int behindBlanks(int from) {
            int i = from;
            while (i >= 0 && i < length && i < MOST && bytes[i] == BLANK) {
                i++;
            }
            return i;
        }

        boolean digitAt(int i) {
            boolean isThere = i >= 0 && i < length && i < bytes.length;
            return isThere && bytes[i] >= '0' && bytes[i] <= '9';
        }
    }

    /** A WAR as its TEXT tells it: nothing here changes from DAY to DAY. */
    private static final class War {
        static final int MOST_MEN = 8;
        static final int MOST_ORCHARDS = 6;
        static final int FARTHEST = 20;
        static final int FASTEST = 5;
        int men = 0;
        int orchards = 0;
        int pay = 0;
        int allied = 0;
        boolean orchardsApart = true;
        final int[] side = new int[MOST_MEN];
        final int[] start = new int[MOST_MEN];
        final int[] speed = new int[MOST_MEN];
        final int[] bed = new int[MOST_MEN];
        final int[] need = new int[MOST_MEN];
        final int[] ill = new int[MOST_MEN];
        final int[] place = new int[MOST_ORCHARDS];
        final int[] days = new int[MOST_ORCHARDS];
        final int[] restAt = new int[FARTHEST + 1];
        final int[] sideBits = new int[2];

        void clear(int payWithout, int alliedWithout) {
            men = 0;
            orchards = 0;
            pay = payWithout;
            allied = alliedWithout;
            orchardsApart = true;
            sideBits[0] = 0;
            sideBits[1] = 0;
            for (int s = 0; s < restAt.length; s++) {
                restAt[s] = 0;
            }
        }

        /** The items stand in the order s d v b n i. */
        void addMan(int[] items) {
            if (men >= MOST_MEN || items.length < 6) {
                return;
            }
            side[men] = items[0] == 1 ? 1 : 0;
            start[men] = items[1];
            speed[men] = items[2];
            bed[men] = items[3];
            need[men] = items[4];
            ill[men] = items[5];
            sideBits[items[0] == 1 ? 1 : 0] |= 1 << men;
            men++;
        }

        void addOrchard(int step, int stayDays) {
            if (orchards >= MOST_ORCHARDS || step < 1 || step > FARTHEST) {
                return;
            }
            orchardsApart = orchardsApart && restAt[step] == 0;
            place[orchards] = step;
            days[orchards] = stayDays;
            restAt[step] = stayDays;
            orchards++;
        }

        boolean isWhole() {
            return men >= 2 && sideBits[0] != 0 && sideBits[1] != 0 && orchardsApart;
        }

        void take(War other) {
            men = other.men;
            orchards = other.orchards;
            pay = other.pay;
            allied = other.allied;
            System.arraycopy(other.side, 0, side, 0, MOST_MEN);
            System.arraycopy(other.start, 0, start, 0, MOST_MEN);
            System.arraycopy(other.speed, 0, speed, 0, MOST_MEN);
            System.arraycopy(other.bed, 0, bed, 0, MOST_MEN);
            System.arraycopy(other.need, 0, need, 0, MOST_MEN);
            System.arraycopy(other.ill, 0, ill, 0, MOST_MEN);
            System.arraycopy(other.place, 0, place, 0, MOST_ORCHARDS);
            System.arraycopy(other.days, 0, days, 0, MOST_ORCHARDS);
            System.arraycopy(other.restAt, 0, restAt, 0, FARTHEST + 1);
            System.arraycopy(other.sideBits, 0, sideBits, 0, 2);
        }

        boolean hasMan(int man) {
            return man >= 0 && man < men && man < MOST_MEN;
        }

        int allBits() {
            return (1 << men) - 1;
        }

        /** Whether it is a set of MEN (as bits) of this WAR. */
        boolean hasSet(int set) {
            return men > 0 && set >= 0 && set <= allBits();
        }

        /** What a MAN has, if those of the set sleep and the others march. */
        int share(int man, int asleep) {
            int own = (asleep >> man & 1) != 0 ? need[man] : 0;
            boolean allOfFirst = (asleep & sideBits[0]) == sideBits[0];
            boolean allOfSecond = (asleep & sideBits[1]) == sideBits[1];
            if (allOfFirst == allOfSecond) {
                return own;
            }
            int sleepers = allOfFirst ? 0 : 1;
            return side[man] == sleepers ? own - pay : own + pay;
        }

        /** Whether nobody has more by the other choice alone. */
        boolean isAtRest(int asleep) {
            for (int m = 0; m < men; m++) {
                if (share(m, asleep ^ 1 << m) > share(m, asleep)) {
                    return false;
                }
            }
            return true;
        }
    }

    /** Reads the TAPE as a WAR into a draft and finds its FAULT. */
    private static final class WarText {
        private static final String LETTERS = "sdvbnikxpg";
        private static final int[] LEAST = {0, 0, 1, 0, 0, 0, 1, 1, 0, 0};
        private static final int[] MOST = {1, 20, 5, 1, 9, 9, 20, 9, 9, 1};
        private static final int[] WITHOUT = {0, 6, 1, 0, 3, 0, 3, 2, 6, 0};
        private static final int OF_MAN = 0;
        private static final int OF_ORCHARD = 6;
        private static final int OF_WAR = 8;
        private static final int PAY = 8;
        private static final int ALLIED = 9;
        private static final int ITEMS = 10;
        private final Tape tape;
        private final War draft;
        private final int[] items = new int[ITEMS];
        private int seen = 0;
        private int at = 0;
        private boolean toldOfWar = false;

        WarText(Tape tape, War draft) {
            this.tape = tape;
            this.draft = draft;
        }

        /** The FAULT, NONE without; the draft is the WAR then. */
        int read() {
            draft.clear(WITHOUT[PAY], WITHOUT[ALLIED]);
            toldOfWar = false;
            at = tape.behindBlanks(0);
            for (int n = 0; n <= Tape.MOST; n++) {
                if (!readClause()) {
                    return at;
                }
                if (at >= tape.length) {
                    return draft.isWhole() ? NONE : tape.length;
                }
                goOn();
            }
            return at;
        }

        /** Stops at the ; behind the CLAUSE or at the end; when false, at the byte that is wrong. */
        private boolean readClause() {
            int kind = tape.at(at);
            int from = firstItemOf(kind);
            if (from == NONE || isOneTooMany(kind)) {
                return false;
            }
            goOn();
            if (!readItems(from, endOfItems(from))) {
                return false;
            }
            keepClause(kind);
            return true;
        }

        private static int firstItemOf(int kind) {
            if (kind == 'm') {
                return OF_MAN;
            }
            if (kind == 'o') {
                return OF_ORCHARD;
            }
            return kind == 'w' ? OF_WAR : NONE;
        }

        private static int endOfItems(int from) {
            if (from == OF_MAN) {
                return OF_ORCHARD;
            }
            return from == OF_ORCHARD ? OF_WAR : ITEMS;
        }

        private boolean isOneTooMany(int kind) {
            if (kind == 'm') {
                return draft.men >= War.MOST_MEN;
            }
            return kind == 'o' ? draft.orchards >= War.MOST_ORCHARDS : toldOfWar;
        }

        private void keepClause(int kind) {
            if (kind == 'm') {
                draft.addMan(items);
            } else if (kind == 'o') {
                draft.addOrchard(items[OF_ORCHARD], items[OF_ORCHARD + 1]);
            } else {
                draft.pay = items[PAY];
                draft.allied = items[ALLIED];
                toldOfWar = true;
            }
        }

        private boolean readItems(int from, int to) {
            System.arraycopy(WITHOUT, 0, items, 0, ITEMS);
            seen = 0;
            for (int n = 0; n <= Tape.MOST; n++) {
                int sign = tape.at(at);
                if (sign == NONE || sign == ';') {
                    return true;
                }
                int item = LETTERS.indexOf((char) sign);
                if (item < from || item >= to || (seen >> item & 1) != 0) {
                    return false;
                }
                seen |= 1 << item;
                goOn();
                if (!readNumber(item)) {
                    return false;
                }
            }
            return false;
        }

        private boolean readNumber(int item) {
            if (!tape.digitAt(at) || item < 0 || item >= ITEMS) {
                return false;
            }
            int number = tape.at(at) - '0';
            if (tape.digitAt(at + 1)) {
                at++;
                number = number * 10 + tape.at(at) - '0';
            }
            if (tape.digitAt(at + 1)) {
                at++;
                return false;
            }
            if (number < LEAST[item] || number > MOST[item]) {
                return false;
            }
            items[item] = number;
            goOn();
            return true;
        }

        private void goOn() {
            at = tape.behindBlanks(at + 1);
        }
    }

    /** Reads the TAPE as a LAW, finds its FAULT and writes the LAW as signs that stand behind their numbers. */
    private static final class LawText {
        private static final int DEEPEST = 6;
        private static final int MOST_DIGITS = 4;
        private final Tape tape;
        final int[] code = new int[Laws.MOST_CODE];
        int length = 0;
        private int at = 0;

        LawText(Tape tape) {
            this.tape = tape;
        }

        /** The FAULT, NONE without; the code is the LAW then. */
        int read() {
            length = 0;
            at = tape.behindBlanks(0);
            for (int n = 0; n <= Tape.MOST; n++) {
                if (!readClause()) {
                    return at;
                }
                if (at >= tape.length) {
                    return NONE;
                }
                if (!takes(';')) {
                    return at;
                }
            }
            return at;
        }

        /** As all below: false with the byte that is wrong, true behind what was read. */
        private boolean readClause() {
            if (!takes('y') || !takes(':')) {
                return false;
            }
            int sign = tape.at(at);
            boolean hasCondition = sign == '!' || sign == '(';
            boolean goesOn = hasCondition ? readCondition(0) : readSum(0);
            if (goesOn && !hasCondition && comparisonOf(tape.at(at)) != 0) {
                hasCondition = true;
                goesOn = readComparison(0) && readMoreUnits(0) && readMoreTruths(0);
            }
            if (goesOn && hasCondition) {
                goesOn = readAnswer();
            }
            put(Laws.ANSWER);
            return goesOn;
        }

        private boolean readAnswer() {
            if (!takes('?')) {
                return false;
            }
            put(Laws.UNLESS);
            return readSum(0);
        }

        private boolean readCondition(int depth) {
            return readUnit(depth) && readMoreUnits(depth) && readMoreTruths(depth);
        }

        private boolean readMoreTruths(int depth) {
            for (int n = 0; n <= Tape.MOST && takes('|'); n++) {
                if (!readUnit(depth) || !readMoreUnits(depth)) {
                    return false;
                }
                put(Laws.OR);
            }
            return true;
        }

        private boolean readMoreUnits(int depth) {
            for (int n = 0; n <= Tape.MOST && takes('&'); n++) {
                if (!readUnit(depth)) {
                    return false;
                }
                put(Laws.AND);
            }
            return true;
        }

        private boolean readUnit(int depth) {
            int sign = tape.at(at);
            if (sign != '!' && sign != '(') {
                return readSum(depth) && readComparison(depth);
            }
            if (depth >= DEEPEST) {
                return false;
            }
            goOn();
            if (sign == '(') {
                return readCondition(depth + 1) && takes(')');
            }
            if (!readUnit(depth + 1)) {
                return false;
            }
            put(Laws.NOT);
            return true;
        }

        private boolean readComparison(int depth) {
            int sign = comparisonOf(tape.at(at));
            if (sign == 0) {
                return false;
            }
            goOn();
            if (!readSum(depth)) {
                return false;
            }
            put(sign);
            return true;
        }

        private static int comparisonOf(int sign) {
            if (sign == '=') {
                return Laws.ALIKE;
            }
            if (sign == '<') {
                return Laws.BELOW;
            }
            return sign == '>' ? Laws.ABOVE : 0;
        }

        private boolean readSum(int depth) {
            if (!readTerm(depth)) {
                return false;
            }
            for (int n = 0; n <= Tape.MOST; n++) {
                int sign = tape.at(at);
                if (sign != '+' && sign != '-') {
                    return true;
                }
                goOn();
                if (!readTerm(depth)) {
                    return false;
                }
                put(sign == '+' ? Laws.PLUS : Laws.MINUS);
            }
            return true;
        }

        private boolean readTerm(int depth) {
            if (!readAtom(depth)) {
                return false;
            }
            for (int n = 0; n <= Tape.MOST; n++) {
                int sign = tape.at(at);
                if (sign != '*' && sign != '/') {
                    return true;
                }
                goOn();
                if (!readAtom(depth)) {
                    return false;
                }
                put(sign == '*' ? Laws.TIMES : Laws.BY);
            }
            return true;
        }

        private boolean readAtom(int depth) {
            int sign = tape.at(at);
            if (sign == NONE) {
                return false;
            }
            if (tape.digitAt(at)) {
                return readNumber();
            }
            if (sign == '[') {
                if (depth >= DEEPEST) {
                    return false;
                }
                goOn();
                return readSum(depth + 1) && takes(']');
            }
            int letter = Laws.LETTERS.indexOf((char) sign);
            if (letter < 0) {
                return false;
            }
            put(Laws.FIRST_LETTER - letter);
            goOn();
            return true;
        }

        private boolean readNumber() {
            int number = 0;
            for (int digits = 0; digits < MOST_DIGITS && tape.digitAt(at); digits++) {
                number = number * 10 + tape.at(at) - '0';
                at++;
            }
            if (tape.digitAt(at)) {
                return false;
            }
            put(number);
            at = tape.behindBlanks(at);
            return true;
        }

        private boolean takes(int sign) {
            if (tape.at(at) != sign) {
                return false;
            }
            at = tape.behindBlanks(at + 1);
            return true;
        }

        private void put(int sign) {
            if (length >= 0 && length < code.length) {
                code[length] = sign;
                length++;
            }
        }

        private void goOn() {
            at = tape.behindBlanks(at + 1);
        }
    }

    /** The LAWS, which of them holds, and their WORTH. */
    private static final class Laws {
        static final int MOST = 4;
        static final int MOST_CODE = Tape.MOST;
        static final String LETTERS = "dbniys";
        static final int LETTER_COUNT = 6;
        // In the code numbers from 0 on are themselves; signs and letters stand below 0.
        static final int FIRST_LETTER = -1;
        static final int PLUS = -11;
        static final int MINUS = -12;
        static final int TIMES = -13;
        static final int BY = -14;
        static final int ALIKE = -15;
        static final int BELOW = -16;
        static final int ABOVE = -17;
        static final int AND = -18;
        static final int OR = -19;
        static final int NOT = -20;
        static final int UNLESS = -21;
        static final int ANSWER = -22;
        private static final int BOUND = 1000000;
        // Six within one another leave at most 18 numbers waiting.
        private static final int MOST_WAITING = 32;
        private final int[][] code = new int[MOST][MOST_CODE];
        private final int[] lengths = new int[MOST];
        private final int[] waiting = new int[MOST_WAITING];
        final int[] letters = new int[LETTER_COUNT];
        final int[] through = new int[MOST];
        int count = 0;
        int held = NONE;

        boolean has(int law) {
            return law >= 0 && law < count && law < MOST;
        }

        void add(LawText text) {
            if (count >= MOST || text.length > MOST_CODE || text.length < 0) {
                return;
            }
            System.arraycopy(text.code, 0, code[count], 0, text.length);
            lengths[count] = text.length;
            count++;
        }

        /** The MEN (bits) who go through all LAWS of the set. */
        int throughAll(int set) {
            int bits = NONE;
            for (int l = 0; l < count && l < MOST; l++) {
                bits &= (set >> l & 1) != 0 ? through[l] : NONE;
            }
            return bits;
        }

        /** WORTH by what stands in letters now. */
        int worth(int law) {
            if (!has(law)) {
                return 0;
            }
            int[] signs = code[law];
            int top = 0;
            boolean skips = false;
            for (int i = 0; i < lengths[law] && i < MOST_CODE; i++) {
                int sign = signs[i];
                if (skips) {
                    skips = sign != ANSWER;
                } else if (sign > FIRST_LETTER - LETTER_COUNT && top < MOST_WAITING) {
                    waiting[top] = sign >= 0 ? sign : letters[FIRST_LETTER - sign];
                    top++;
                } else if (sign == ANSWER && top >= 1) {
                    return waiting[top - 1];
                } else if (sign == UNLESS && top >= 1) {
                    top--;
                    skips = waiting[top] == 0;
                } else if (sign == NOT && top >= 1) {
                    waiting[top - 1] = waiting[top - 1] == 0 ? 1 : 0;
                } else if (top >= 2) {
                    top--;
                    waiting[top - 1] = joined(sign, waiting[top - 1], waiting[top]);
                }
            }
            return 0;
        }

        private static int joined(int sign, int left, int right) {
            long number = 0;
            switch (sign) {
                case PLUS: number = left + right; break;
                case MINUS: number = left - right; break;
                case TIMES: number = (long) left * right; break;
                case BY: number = right == 0 ? 0 : left / right; break;
                case ALIKE: number = left == right ? 1 : 0; break;
                case BELOW: number = left < right ? 1 : 0; break;
                case ABOVE: number = left > right ? 1 : 0; break;
                case AND: number = left != 0 && right != 0 ? 1 : 0; break;
                case OR: number = left != 0 || right != 0 ? 1 : 0; break;
                default: break;
            }
            return number > BOUND ? BOUND : number < -BOUND ? -BOUND : (int) number;
        }
    }

    /** Where the MEN are on this DAY; who is HOME is kept as bits, since LAWS are long to read. */
    private static final class Road {
        private static final int STEP_BITS = 5;
        private static final int REST_BITS = 4;
        private final War war;
        private final Laws laws;
        final int[] steps = new int[War.MOST_MEN];
        final int[] rests = new int[War.MOST_MEN];
        int deeds = 0;
        int day = 0;
        int home = 0;

        Road(War war, Laws laws) {
            this.war = war;
            this.laws = laws;
        }

        void begin() {
            deeds = 0;
            day = 0;
            home = 0;
            for (int m = 0; m < war.men; m++) {
                steps[m] = war.start[m];
                rests[m] = restAt(steps[m]);
            }
            lookAtAll();
        }

        private int restAt(int step) {
            return step >= 0 && step <= War.FARTHEST ? war.restAt[step] : 0;
        }

        void lookAtAll() {
            for (int m = 0; m < war.men; m++) {
                lookAt(m);
            }
        }

        private void lookAt(int man) {
            boolean isThere = laws.held == NONE ? steps[man] == 0 : isHomeBy(laws.held, man);
            home = isThere ? home | 1 << man : home & ~(1 << man);
        }

        boolean isHomeBy(int law, int man) {
            laws.letters[0] = steps[man];
            laws.letters[1] = war.bed[man];
            laws.letters[2] = war.need[man];
            laws.letters[3] = war.ill[man];
            laws.letters[4] = day;
            laws.letters[5] = war.side[man];
            return laws.worth(law) > 0;
        }

        boolean isHome(int man) {
            return (home >> man & 1) != 0;
        }

        boolean didDeed(int man) {
            return (deeds >> man & 1) != 0;
        }

        void markDeed(int man) {
            deeds |= 1 << man;
        }

        boolean isOver() {
            return winner() != NONE;
        }

        /** The SIDE that has WON, 2 for both, NONE as long as it is not over. */
        int winner() {
            if (war.men == 0) {
                return NONE;
            }
            boolean firstHome = (war.sideBits[0] & ~home) == 0;
            boolean secondHome = (war.sideBits[1] & ~home) == 0;
            if (firstHome) {
                return secondHome ? 2 : 1;
            }
            return secondHome ? 0 : NONE;
        }

        boolean mayAct(int man) {
            return war.hasMan(man) && !isHome(man) && !didDeed(man) && !isOver();
        }

        boolean canGo(int man) {
            return steps[man] > 0;
        }

        boolean hasRest(int man) {
            return rests[man] > 0;
        }

        boolean canPress(int man, int other) {
            boolean isFoe = war.allied == 1 || war.side[man] != war.side[other];
            return man != other && isFoe && hasRest(man) && !isHome(other) && canGo(other);
        }

        int lowestToPress(int man) {
            for (int o = 0; o < war.men; o++) {
                if (canPress(man, o)) {
                    return o;
                }
            }
            return NONE;
        }

        void move(int man, int by) {
            steps[man] = Math.max(0, steps[man] - by);
            rests[man] = restAt(steps[man]);
            lookAt(man);
        }

        void spendRest(int man) {
            rests[man]--;
        }

        void beginNextDay() {
            day++;
            deeds = 0;
            lookAtAll();
        }

        long packedSteps() {
            long packed = 0;
            for (int m = 0; m < war.men; m++) {
                packed |= (long) steps[m] << m * STEP_BITS;
            }
            return packed;
        }

        long packedRests() {
            long packed = 0;
            for (int m = 0; m < war.men; m++) {
                packed |= (long) rests[m] << m * REST_BITS;
            }
            return packed;
        }

        void unpack(long packedSteps, long packedRests, int deedBits, int dayThen) {
            for (int m = 0; m < war.men; m++) {
                steps[m] = (int) (packedSteps >> m * STEP_BITS) & (1 << STEP_BITS) - 1;
                rests[m] = (int) (packedRests >> m * REST_BITS) & (1 << REST_BITS) - 1;
            }
            deeds = deedBits;
            day = dayThen;
            lookAtAll();
        }
    }

    /** What was done. More lines are kept than are told, so that they are there again when ACTS are UNDONE. */
    private static final class Logbook {
        private static final int MOST_TOLD = 60;
        private static final int MOST_LINES_OF_ACT = War.MOST_MEN + 1;
        private static final int MOST_KEPT = MOST_TOLD + Past.MOST_ACTS * MOST_LINES_OF_ACT;
        private final int[] lines = new int[MOST_KEPT];
        private final int[] imaged = new int[MOST_TOLD];
        private int imagedLength = 0;
        int written = 0;

        void clear() {
            written = 0;
            imagedLength = 0;
        }

        int length() {
            return Math.min(written, MOST_TOLD);
        }

        void add(int what, int who, int whom) {
            lines[Math.floorMod(written, MOST_KEPT)] = what * 100 + (who + 1) * 10 + whom + 1;
            written++;
        }

        /** The latest is 0. */
        int line(int i) {
            return lines[Math.floorMod(written - 1 - i, MOST_KEPT)];
        }

        static int whatOf(int line) {
            return line / 100;
        }

        static int whoOf(int line) {
            return line / 10 % 10 - 1;
        }

        static int whomOf(int line) {
            return line % 10 - 1;
        }

        void keepImage() {
            imagedLength = length();
            for (int i = 0; i < imagedLength && i < MOST_TOLD; i++) {
                imaged[i] = line(imagedLength - 1 - i);
            }
        }

        void bringImageBack() {
            for (int i = 0; i < imagedLength && i < MOST_TOLD; i++) {
                lines[i] = imaged[i];
            }
            written = imagedLength;
        }
    }

    /** How it was ahead of each of the latest ACTS, and the IMAGE in a slot behind these. */
    private static final class Past {
        static final int MOST_ACTS = 40;
        private static final int IMAGE_SLOT = MOST_ACTS;
        private final long[] steps = new long[MOST_ACTS + 1];
        private final long[] rests = new long[MOST_ACTS + 1];
        private final int[] deeds = new int[MOST_ACTS + 1];
        private final int[] days = new int[MOST_ACTS + 1];
        private final int[] written = new int[MOST_ACTS];
        private int slot = 0;
        int acts = 0;
        boolean hasImage = false;

        void clear() {
            acts = 0;
            hasImage = false;
        }

        void keepAct(Road road, Logbook logbook) {
            slot = Math.floorMod(slot, MOST_ACTS);
            keep(slot, road);
            written[slot] = logbook.written;
            slot++;
            acts = Math.min(acts + 1, MOST_ACTS);
        }

        void undoAct(Road road, Logbook logbook) {
            slot = Math.floorMod(slot - 1, MOST_ACTS);
            road.unpack(steps[slot], rests[slot], deeds[slot], days[slot]);
            logbook.written = written[slot];
            acts--;
        }

        void keepImage(Road road, Logbook logbook) {
            keep(IMAGE_SLOT, road);
            logbook.keepImage();
            hasImage = true;
        }

        void bringImageBack(Road road, Logbook logbook) {
            road.unpack(steps[IMAGE_SLOT], rests[IMAGE_SLOT], deeds[IMAGE_SLOT], days[IMAGE_SLOT]);
            logbook.bringImageBack();
            acts = 0;
        }

        private void keep(int into, Road road) {
            steps[into] = road.packedSteps();
            rests[into] = road.packedRests();
            deeds[into] = road.deeds;
            days[into] = road.day;
        }
    }

    /**
     * DUELS of two SPEEDS. A place is a STEP with a REST there; places are numbered so that
     * every deed leads to lower ones, and all DUELS are settled from the lowest on.
     */
    private static final class Duels {
        private static final int PLACES = War.FARTHEST + 9 * War.MOST_ORCHARDS + 1;
        // A win in n turns is worth SETTLED - n, a loss in n turns n - SETTLED.
        private static final int SETTLED = 1000;
        private static final int WON_NOW = SETTLED - 1;
        private static final int LOST_NOW = 1 - SETTLED;
        private final int[] lowestAt = new int[War.FARTHEST + 1];
        private final int[] highestAt = new int[War.FARTHEST + 1];
        private final int[] stepOf = new int[PLACES];
        private final int[] goneTo = new int[PLACES];
        private final int[] pressedByFirst = new int[PLACES];
        private final int[] pressedByOther = new int[PLACES];
        private int[] firstInTurn = null;
        private int[] otherInTurn = null;
        private int firstSpeed = 0;
        private int otherSpeed = 0;
        private int firstFarthest = 0;
        private int otherFarthest = 0;

        void layOut(War war) {
            int place = 0;
            for (int s = 0; s <= War.FARTHEST; s++) {
                lowestAt[s] = place;
                for (int r = 0; r <= war.restAt[s] && place < PLACES; r++) {
                    stepOf[place] = s;
                    goneTo[place] = s == 0 ? 0 : lowestAt[s] - 1;
                    place++;
                }
                highestAt[s] = place - 1;
            }
            firstSpeed = 0;
            otherSpeed = 0;
        }

        int place(int step, int rest) {
            return step >= 0 && step <= War.FARTHEST ? lowestAt[step] + rest : 0;
        }

        void prepare(int first, int other, int firstFar, int otherFar) {
            boolean same = first == firstSpeed && other == otherSpeed;
            if (same && firstFar <= firstFarthest && otherFar <= otherFarthest) {
                return;
            }
            if (firstInTurn == null || otherInTurn == null) {
                firstInTurn = new int[PLACES * PLACES];
                otherInTurn = new int[PLACES * PLACES];
            }
            firstSpeed = first;
            otherSpeed = other;
            firstFarthest = Math.min(firstFar, PLACES - 1);
            otherFarthest = Math.min(otherFar, PLACES - 1);
            findPressed(pressedByFirst, first);
            findPressed(pressedByOther, other);
            settleAll();
        }

        private void findPressed(int[] pressed, int speed) {
            for (int p = 0; p < PLACES; p++) {
                pressed[p] = highestAt[Math.max(0, stepOf[p] - speed)];
            }
        }

        private void settleAll() {
            for (int f = 1; f <= firstFarthest; f++) {
                for (int o = 1; o <= otherFarthest; o++) {
                    firstInTurn[f * PLACES + o] = best(f, o, pressedByFirst[o], otherInTurn);
                    otherInTurn[o * PLACES + f] = best(o, f, pressedByOther[f], firstInTurn);
                }
            }
        }

        /** Four times the worth and how far the deed is below PRESSED, so that of several the lowest is the best. */
        private int best(int mine, int yours, int pressed, int[] replies) {
            int gone = goneTo[mine];
            int best = 4 * (gone == 0 ? LOST_NOW : answered(replies[yours * PLACES + gone])) + PRESSED - GONE;
            boolean hasRest = mine - 1 > gone;
            if (hasRest) {
                int stayed = answered(replies[yours * PLACES + mine - 1]);
                int after = pressed == 0 ? WON_NOW : answered(replies[pressed * PLACES + mine - 1]);
                best = Math.max(best, Math.max(4 * stayed + PRESSED - STAYED, 4 * after));
            }
            return best;
        }

        /** What is it worth to the one, if the other one is in turn then: a turn later, and turned round. */
        private static int answered(int reply) {
            int worth = reply >> 2;
            return worth > 0 ? 1 - worth : -1 - worth;
        }

        /** What was settled for the first in turn; 0 where nothing is. */
        int settled(int mine, int yours) {
            boolean arePlaces = mine > 0 && mine <= firstFarthest && yours > 0 && yours <= otherFarthest;
            return firstInTurn != null && arePlaces ? firstInTurn[mine * PLACES + yours] : 0;
        }

        boolean isWon(int mine, int yours) {
            return settled(mine, yours) > 0;
        }

        int turns(int mine, int yours) {
            return SETTLED - Math.abs(settled(mine, yours) >> 2);
        }

        int deed(int mine, int yours) {
            return PRESSED - (settled(mine, yours) & 3);
        }
    }

    /** Whom to PRESS so that most of the other SIDE have no STEPS to go then. */
    private static final class Escorts {
        private static final int NOBODY = 9;
        private final War war;
        private final Road road;
        private final int[] reached = new int[War.MOST_MEN];
        private int count = 0;

        Escorts(War war, Road road) {
            this.war = war;
            this.road = road;
        }

        void gather(int side) {
            count = 0;
            for (int m = 0; m < war.men; m++) {
                if (war.side[m] == side && !road.isHome(m) && road.hasRest(m)) {
                    reached[count] = broughtHomeBy(m);
                    count++;
                }
            }
        }

        private int broughtHomeBy(int man) {
            int bits = 0;
            for (int o = 0; o < war.men; o++) {
                boolean canBePressed = war.side[o] != war.side[man] && !road.isHome(o) && road.canGo(o);
                if (canBePressed && road.steps[o] <= war.speed[man]) {
                    bits |= 1 << o;
                }
            }
            return bits;
        }

        int most() {
            return mostFrom(0, war.allBits());
        }

        /** A call opens one for the next escort, so there are at most as many as MEN. */
        private int mostFrom(int escort, int free) {
            if (escort >= count || escort >= War.MOST_MEN) {
                return 0;
            }
            int best = mostFrom(escort + 1, free);
            for (int o = 0; o < war.men; o++) {
                if ((reached[escort] & free & 1 << o) != 0) {
                    best = Math.max(best, 1 + mostFrom(escort + 1, free & ~(1 << o)));
                }
            }
            return best;
        }

        int leastRow() {
            int row = 0;
            int free = war.allBits();
            int due = most();
            for (int e = 0; e < count; e++) {
                int whom = lowestThatLeaves(e, free, due);
                row = row * 10 + whom;
                if (whom != NOBODY) {
                    free &= ~(1 << whom);
                    due--;
                }
            }
            return row;
        }

        private int lowestThatLeaves(int escort, int free, int due) {
            for (int o = 0; o < war.men && escort < War.MOST_MEN; o++) {
                boolean reaches = (reached[escort] & free & 1 << o) != 0;
                if (reaches && 1 + mostFrom(escort + 1, free & ~(1 << o)) == due) {
                    return o;
                }
            }
            return NOBODY;
        }
    }

    /** LETTERS of an army that nobody sees, and the rows of STEPS that FIT them. */
    private static final class Letters {
        static final int MOST_ROWS = 1771;
        private static final int MOST = 10;
        private static final int LARGEST = 3;
        private static final int BASE = War.FARTHEST + 1;
        private static final int ANSWERS = LARGEST + 1;
        private final int[] bounds = new int[MOST];
        private final int[] manies = new int[MOST];
        private final int[] row = new int[LARGEST];
        private final int[] tallies = new int[BASE * ANSWERS];
        int inAllRows = 0;
        int count = 0;

        static boolean isSize(int n) {
            return n >= 1 && n <= LARGEST;
        }

        boolean add(int k, int many) {
            if (k < 0 || k > War.FARTHEST || many < 0 || many > LARGEST || count >= MOST) {
                return false;
            }
            bounds[count] = k;
            manies[count] = many;
            count++;
            return true;
        }

        void beginRows() {
            for (int i = 0; i < row.length; i++) {
                row[i] = 0;
            }
        }

        /** The next row that rises; false behind the last one. */
        boolean nextRow(int n) {
            for (int i = Math.min(n, LARGEST) - 1; i >= 0; i--) {
                if (row[i] < War.FARTHEST) {
                    row[i]++;
                    for (int j = i + 1; j < row.length; j++) {
                        row[j] = row[i];
                    }
                    return true;
                }
            }
            return false;
        }

        boolean rowFits(int n) {
            for (int l = 0; l < count && l < MOST; l++) {
                if (howMany(n, bounds[l]) != manies[l]) {
                    return false;
                }
            }
            return true;
        }

        private int howMany(int n, int k) {
            int many = 0;
            for (int i = 0; i < n && i < LARGEST; i++) {
                many += row[i] <= k ? 1 : 0;
            }
            return many;
        }

        int rowNumber(int n) {
            int number = 0;
            for (int i = 0; i < n && i < LARGEST; i++) {
                number = number * BASE + row[i];
            }
            return number;
        }

        private int rowBits(int n) {
            int bits = 0;
            for (int i = 0; i < n && i < LARGEST; i++) {
                bits |= 1 << row[i];
            }
            return bits;
        }

        /** Counts the answers to each question and what stands in all rows that FIT: how many FIT. */
        int tally(int n) {
            for (int i = 0; i < tallies.length; i++) {
                tallies[i] = 0;
            }
            inAllRows = (1 << BASE) - 1;
            int found = 0;
            beginRows();
            for (int r = 0; r < MOST_ROWS; r++) {
                if (rowFits(n)) {
                    found++;
                    inAllRows &= rowBits(n);
                    tallyRow(n);
                }
                if (!nextRow(n)) {
                    break;
                }
            }
            return found;
        }

        private void tallyRow(int n) {
            int many = 0;
            for (int k = 0; k < BASE; k++) {
                // The row rises, so those below k stand first.
                while (many < n && many < LARGEST && row[many] <= k) {
                    many++;
                }
                tallies[k * ANSWERS + many]++;
            }
        }

        int mostFrequent(int k) {
            int most = 0;
            for (int a = 0; a < ANSWERS && k >= 0 && k < BASE; a++) {
                most = Math.max(most, tallies[k * ANSWERS + a]);
            }
            return most;
        }

        int bestQuestion() {
            int best = 0;
            for (int k = 1; k < BASE; k++) {
                if (mostFrequent(k) < mostFrequent(best)) {
                    best = k;
                }
            }
            return best;
        }
    }
}
