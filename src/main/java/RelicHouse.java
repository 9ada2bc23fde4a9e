import java.util.NoSuchElementException;

/**
 * A convent told as a text, its relics, pilgrims and vows, and the days that go by in it.
 *
 * Every row that a call needs is made by the constructor and used again, because all calls of a
 * run share one room; only exceptions are made later.
 */
public final class RelicHouse {
    public static final int NONE = -1;

    private static final int MOST_BYTES = 600;
    private static final int MOST_LAW_BYTES = 150;
    private static final int MOST_WORK_BYTES = 150;
    private static final int MOST_SEEN_BYTES = 60;
    private static final int MOST_CLAUSES = 60;
    private static final int MOST_SISTERS = 8;
    private static final int MOST_RELICS = 10;
    private static final int MOST_PILGRIMS = 8;
    private static final int MOST_OPEN = 6;
    private static final int MOST_STEPS = 200;
    private static final int MOST_WORKS = 16;
    private static final int MOST_IMAGES = 3;
    private static final int MOST_POWER = 99;
    private static final int LAST_DAY = 500;
    private static final int ILLS = 6;
    private static final int SIXTEENTHS = 16;
    private static final int WHEN_DAYS = 200;

    private static final int CANNOT_STAND = 1;
    private static final int NO_SUCH_NUMBER = 2;
    private static final int TOO_MANY = 3;
    private static final int FAULT_BASE = 10;
    private static final int NO_MORE_WORKS = -20;

    private final Tape tape = new Tape();
    private final Convent now = new Convent(new House(), new Law());
    private final Script script = new Script();
    private final Suspects suspects = new Suspects();
    private final Pairing pairing = new Pairing();
    private final Year trialYear = new Year(now.house, now.law);
    private final Shelf works = new Shelf(MOST_WORKS, Convent.WIDTH);
    private final Shelf images = new Shelf(MOST_IMAGES, Convent.WIDTH);
    private final Shelf[] imagedWorks = new Shelf[MOST_IMAGES];
    private Sight sight = new Sight();
    private House spareHouse = new House();
    private Law spareLaw = new Law();
    private Sight spareSight = new Sight();
    private int refusedSteps;
    private int noElements;
    private int noArguments;

    public RelicHouse() {
        for (int i = 0; i < imagedWorks.length; i++) {
            imagedWorks[i] = new Shelf(MOST_WORKS, Convent.WIDTH);
        }
    }

    public int feed(int a, int b, int c, int d, int e) {
        if (!tape.hasRoom()) {
            return NONE;
        }
        tape.put(a);
        tape.put(b);
        tape.put(c);
        tape.put(d);
        tape.put(e);
        return tape.size;
    }

    public int house(int n) throws IllegalArgumentException {
        openText(n, MOST_BYTES);
        spareHouse.read(tape);
        if (!tape.isSound()) {
            return tape.faultKind - FAULT_BASE;
        }
        House old = now.house;
        now.house = spareHouse;
        spareHouse = old;
        now.begin();
        sight.clear();
        works.height = 0;
        images.height = 0;
        refusedSteps = 0;
        return now.house.relics;
    }

    public int law(int n) throws IllegalArgumentException {
        openText(n, MOST_LAW_BYTES);
        spareLaw.read(tape);
        if (!tape.isSound()) {
            return tape.faultKind - FAULT_BASE;
        }
        Law old = now.law;
        now.law = spareLaw;
        spareLaw = old;
        return 1;
    }

    public int work(int n) throws IllegalArgumentException {
        openText(n, MOST_WORK_BYTES);
        if (works.isFull()) {
            return NO_MORE_WORKS;
        }
        script.read(tape, now.house);
        if (!tape.isSound()) {
            return tape.faultKind - FAULT_BASE;
        }
        works.push(now.cells);
        script.carryOut(now, 0, script.length, 0);
        refusedSteps = script.refused;
        return script.done;
    }

    public int seen(int n) throws IllegalArgumentException {
        openText(n, MOST_SEEN_BYTES);
        spareSight.read(tape, now.house);
        if (!tape.isSound()) {
            return tape.faultKind - FAULT_BASE;
        }
        Sight old = sight;
        sight = spareSight;
        spareSight = old;
        return sight.lines;
    }

    public int fault() {
        return tape.faultPlace;
    }

    public int undo() {
        if (works.height == 0) {
            return -1;
        }
        works.pop(now.cells);
        refusedSteps = 0;
        return works.height;
    }

    public int told(int what) throws IllegalArgumentException {
        needArgument(isWithin(what, 0, 10));
        switch (what) {
            case 0:
                return now.house.sisters;
            case 1:
                return now.house.relics;
            case 2:
                return now.house.pilgrims;
            case 3:
                return now.cells[Convent.DAY];
            case 4:
                return now.cells[Convent.LIVING];
            case 5:
                return now.cells[Convent.KEPT];
            case 6:
                return now.cells[Convent.CURED];
            case 7:
                return now.cells[Convent.USED];
            case 8:
                return sight.lines;
            case 9:
                return refusedSteps;
            default:
                return now.powerOfAll();
        }
    }

    public int sister(int sister, int what) throws NoSuchElementException, IllegalArgumentException {
        needElement(now.house.hasSister(sister));
        needArgument(isWithin(what, 0, 4));
        switch (what) {
            case 0:
                return now.house.temptation[sister];
            case 1:
                return now.cells[Convent.LAPSES + sister];
            case 2:
                return now.house.relicsOf[sister];
            case 3:
                return now.keptOf(sister);
            default:
                return now.house.vow[sister];
        }
    }

    public int relic(int relic, int what) throws NoSuchElementException, IllegalArgumentException {
        needElement(now.house.hasRelic(relic));
        needArgument(isWithin(what, 0, 5));
        switch (what) {
            case 0:
                return now.house.owner[relic];
            case 1:
                return now.house.against[relic];
            case 2:
                return now.house.worth[relic];
            case 3:
                return now.isKept(relic) ? now.cells[Convent.DAYS + relic] : NONE;
            case 4:
                return now.powerOf(relic);
            default:
                return openPilgrimsOf(relic);
        }
    }

    public int pilgrim(int pilgrim, int what) throws NoSuchElementException, IllegalArgumentException {
        needElement(now.house.hasPilgrim(pilgrim));
        needArgument(isWithin(what, 0, 3));
        switch (what) {
            case 0:
                return now.house.ill[pilgrim];
            case 1:
                return now.house.need[pilgrim];
            case 2:
                return now.cells[Convent.CURERS + pilgrim];
            default:
                return now.relicsThatCan(pilgrim, 0);
        }
    }

    public int would(int worth, int days, int lapses, int tempted, int ill, int others, int sister, int day)
            throws IllegalArgumentException {
        needArgument(isWithin(worth, 1, 30) && isWithin(days, 0, 999) && isWithin(lapses, 0, 999)
                && isWithin(tempted, 0, 15) && isWithin(ill, 0, 5) && isWithin(others, 0, 9)
                && isWithin(sister, 0, 7) && isWithin(day, 0, LAST_DAY));
        int[] inputs = now.inputs;
        inputs[Law.WORTH] = worth;
        inputs[Law.DAYS] = days;
        inputs[Law.LAPSES] = lapses;
        inputs[Law.TEMPTED] = tempted;
        inputs[Law.ILL] = ill;
        inputs[Law.OTHERS] = others;
        inputs[Law.SISTER] = sister;
        inputs[Law.DAY] = day;
        return now.law.power(inputs);
    }

    public boolean can(int relic, int pilgrim) throws NoSuchElementException {
        needElement(now.house.hasRelic(relic) && now.house.hasPilgrim(pilgrim));
        return !now.isCured(pilgrim) && !now.isUsed(relic) && now.canIn(relic, pilgrim, 0);
    }

    public int when(int relic, int pilgrim) throws NoSuchElementException {
        needElement(now.house.hasRelic(relic) && now.house.hasPilgrim(pilgrim));
        for (int days = 0; days <= WHEN_DAYS; days++) {
            if (now.canIn(relic, pilgrim, days)) {
                return days;
            }
        }
        return NONE;
    }

    public int ahead(int relic, int n, int what) throws NoSuchElementException, IllegalArgumentException {
        needElement(now.house.hasRelic(relic));
        needArgument(isWithin(n, 0, 99) && isWithin(what, 0, 1));
        return what == 0 ? now.powerIn(relic, n) : now.powerIfLapsed(relic, n);
    }

    public int match() {
        pairing.pair(now);
        int many = 0;
        for (int p = 0; p < now.house.pilgrims; p++) {
            if (pairing.chosen[p] != NONE) {
                many++;
            }
        }
        return many;
    }

    public int matched(int pilgrim) throws NoSuchElementException {
        needElement(now.house.hasPilgrim(pilgrim));
        pairing.pair(now);
        return pairing.chosen[pilgrim];
    }

    public int lapsed(int what) throws IllegalArgumentException {
        needArgument(isWithin(what, 0, 2));
        suspects.weigh(now, sight);
        switch (what) {
            case 0:
                return suspects.sets(0, 0);
            case 1:
                return suspects.firstSet();
            default:
                return suspects.sureOnes();
        }
    }

    public int ask(int what) throws IllegalArgumentException {
        needArgument(isWithin(what, 0, 1));
        suspects.weigh(now, sight);
        int asked = NONE;
        int left = NONE;
        for (int r = 0; r < now.house.relics; r++) {
            if (sight.power[r] == NONE) {
                int worst = suspects.leftAtWorst(now, r);
                if (asked == NONE || worst < left) {
                    asked = r;
                    left = worst;
                }
            }
        }
        return what == 0 ? asked : left;
    }

    public long best(int relic, int n, int part) throws NoSuchElementException, IllegalArgumentException {
        needElement(now.house.hasRelic(relic));
        needArgument(isWithin(n, 0, 6) && isWithin(part, 0, 1));
        if (!now.isKept(relic)) {
            return part;
        }
        int lapses = now.cells[Convent.LAPSES + now.house.owner[relic]];
        long above = bestMean(relic, now.cells[Convent.DAYS + relic], lapses, now.cells[Convent.DAY], n);
        return leastTerms(above, n, part);
    }

    public long without(int sister, int n, int part) throws NoSuchElementException, IllegalArgumentException {
        needElement(now.house.hasSister(sister));
        needArgument(isWithin(n, 0, 12) && isWithin(part, 0, 1));
        long above = 1;
        for (int i = 0; i < n; i++) {
            above = above * (SIXTEENTHS - now.house.temptation[sister]);
        }
        return leastTerms(above, n, part);
    }

    public int ring(int sister) throws NoSuchElementException {
        needElement(now.house.hasSister(sister));
        return now.house.ringOf(sister);
    }

    public int follows(int sister, int n) throws NoSuchElementException, IllegalArgumentException {
        needElement(now.house.hasSister(sister));
        needArgument(isWithin(n, 0, 1000000));
        if (n <= MOST_SISTERS) {
            return now.house.walk(sister, n);
        }
        // whoever is come to by so many vows is in a ring, so that whole rounds may be left out
        int inRing = now.house.walk(sister, MOST_SISTERS);
        if (inRing == NONE) {
            return NONE;
        }
        int round = now.house.ringOf(inRing);
        return round > 0 ? now.house.walk(inRing, (n - MOST_SISTERS) % round) : NONE;
    }

    public int tempted(int v, int w, int what) throws IllegalArgumentException {
        needArgument(isWithin(v, 0, 99) && isWithin(w, 0, 99) && isWithin(what, 0, 2));
        int rests = 0;
        int first = NONE;
        int together = 0;
        for (int one = 0; one <= 1; one++) {
            for (int other = 0; other <= 1; other++) {
                if (isRest(one, other, v, w)) {
                    if (rests == 0) {
                        first = 10 * one + other;
                        together = has(one, other, v, w) + has(other, one, v, w);
                    }
                    rests++;
                }
            }
        }
        switch (what) {
            case 0:
                return rests;
            case 1:
                return first;
            default:
                return together;
        }
    }

    public int alms(int pilgrim, int pilgrims, int n) throws NoSuchElementException, IllegalArgumentException {
        needElement(now.house.hasPilgrim(pilgrim));
        needArgument(isWithin(pilgrims, 0, (1 << now.house.pilgrims) - 1) && isWithin(n, 0, 999));
        if ((pilgrims >> pilgrim & 1) == 0) {
            return 0;
        }
        int bound = 0;
        while (bound < 99 && almsUpTo(bound + 1, pilgrims) <= n) {
            bound++;
        }
        return Math.min(bound, now.house.need[pilgrim]);
    }

    public int strongest(int what) throws IllegalArgumentException {
        needArgument(isWithin(what, 0, 1));
        int first = NONE;
        int most = NONE;
        for (int r = 0; r < now.house.relics; r++) {
            if (now.isKept(r)) {
                int power = now.powerOf(r);
                if (power > most) {
                    first = r;
                    most = power;
                }
            }
        }
        return what == 0 ? first : most;
    }

    public int bare() {
        int ills = (1 << ILLS) - 1;
        for (int r = 0; r < now.house.relics; r++) {
            if (now.isKept(r)) {
                ills &= ~(1 << now.house.against[r]);
            }
        }
        return ills;
    }

    public int hopeless(int n) throws IllegalArgumentException {
        needArgument(isWithin(n, 0, 99));
        int bits = 0;
        for (int p = 0; p < now.house.pilgrims; p++) {
            if (!now.isCured(p) && now.relicsThatCan(p, n) == 0) {
                bits |= 1 << p;
            }
        }
        return bits;
    }

    public int eldest(int what) throws IllegalArgumentException {
        needArgument(isWithin(what, 0, 1));
        int first = NONE;
        int most = NONE;
        for (int r = 0; r < now.house.relics; r++) {
            if (now.isKept(r) && now.cells[Convent.DAYS + r] > most) {
                first = r;
                most = now.cells[Convent.DAYS + r];
            }
        }
        return what == 0 ? first : most;
    }

    public int idle() {
        return now.cells[Convent.LIVING] & ~now.keepers();
    }

    public int needs(int ill) throws IllegalArgumentException {
        needArgument(isWithin(ill, 0, ILLS - 1));
        int sum = 0;
        for (int p = 0; p < now.house.pilgrims; p++) {
            if (now.house.ill[p] == ill && !now.isCured(p)) {
                sum += now.house.need[p];
            }
        }
        return sum;
    }

    public int strength(int sister) throws NoSuchElementException {
        needElement(now.house.hasSister(sister));
        int sum = 0;
        for (int r = 0; r < now.house.relics; r++) {
            if (now.house.owner[r] == sister) {
                sum += now.powerOf(r);
            }
        }
        return sum;
    }

    public int weakest(int what) throws IllegalArgumentException {
        needArgument(isWithin(what, 0, 1));
        int first = NONE;
        int most = 0;
        for (int s = 0; s < now.house.sisters; s++) {
            if (now.cells[Convent.LAPSES + s] > most) {
                first = s;
                most = now.cells[Convent.LAPSES + s];
            }
        }
        return what == 0 || first == NONE ? first : most;
    }

    public int year(int seed, int days, int what) throws IllegalArgumentException {
        needArgument(isWithin(days, 1, 96) && isWithin(what, 0, 3));
        trialYear.pass(now, seed, days);
        switch (what) {
            case 0:
                return trialYear.cured;
            case 1:
                return trialYear.lapses;
            case 2:
                return trialYear.trial.powerOfAll();
            default:
                return trialYear.trial.cells[Convent.CURED];
        }
    }

    public int span(int seed, int many, int days, int what, int pilgrim) throws IllegalArgumentException {
        needArgument(isWithin(many, 1, 20) && isWithin(days, 1, 96) && isWithin(what, 0, 2)
                && now.house.hasPilgrim(pilgrim));
        int fewest = MOST_PILGRIMS;
        int most = 0;
        int times = 0;
        for (int i = 0; i < many; i++) {
            trialYear.pass(now, seed + i, days);
            fewest = Math.min(fewest, trialYear.cured);
            most = Math.max(most, trialYear.cured);
            if (trialYear.trial.isCured(pilgrim)) {
                times++;
            }
        }
        switch (what) {
            case 0:
                return fewest;
            case 1:
                return most;
            default:
                return times;
        }
    }

    public int image() {
        if (images.isFull()) {
            return -1;
        }
        imagedWorks[images.height].copyOf(works);
        images.push(now.cells);
        return images.height;
    }

    public int restore() {
        if (images.height == 0) {
            return -1;
        }
        images.pop(now.cells);
        works.copyOf(imagedWorks[images.height]);
        refusedSteps = 0;
        return images.height;
    }

    public int status(int what) {
        switch (what) {
            case 0:
                return noElements;
            case 1:
                return noArguments;
            default:
                return NONE;
        }
    }

    public int count(int what) {
        switch (what) {
            case 0:
                return images.height;
            case 1:
                return tape.size;
            case 2:
                return works.height;
            default:
                return NONE;
        }
    }

    private void needElement(boolean isThere) {
        if (!isThere) {
            noElements++;
            throw new NoSuchElementException("no such sister, relic or pilgrim");
        }
    }

    private void needArgument(boolean isFine) {
        if (!isFine) {
            noArguments++;
            throw new IllegalArgumentException("an argument out of its bounds");
        }
    }

    private static boolean isWithin(int number, int least, int most) {
        return number >= least && number <= most;
    }

    private void openText(int n, int most) {
        needArgument(isWithin(n, 0, Math.min(most, tape.size)));
        tape.open(n);
    }

    private int openPilgrimsOf(int relic) {
        int bits = 0;
        for (int p = 0; p < now.house.pilgrims; p++) {
            if (!now.isCured(p) && now.canIn(relic, p, 0)) {
                bits |= 1 << p;
            }
        }
        return bits;
    }

    /** The mean in parts of 16 to the left-th power, which keeps it whole. */
    private long bestMean(int relic, int days, int lapses, int day, int left) {
        long atOnce = (long) now.powerIf(relic, days, lapses, day) << 4 * left;
        if (left <= 0) {
            return atOnce;
        }
        int lapsing = now.house.temptation[now.house.owner[relic]];
        long later = lapsing * bestMean(relic, days / 2 + 1, lapses + 1, day + 1, left - 1)
                + (SIXTEENTHS - lapsing) * bestMean(relic, days + 1, lapses, day + 1, left - 1);
        return Math.max(atOnce, later);
    }

    /** Of above by 16 to the n-th power; 2 alone can divide both. */
    private static long leastTerms(long above, int n, int part) {
        int twos = 4 * n;
        long rest = above;
        while (twos > 0 && (rest & 1) == 0) {
            rest = rest / 2;
            twos--;
        }
        return part == 0 ? rest : 1L << twos;
    }

    private static boolean isRest(int one, int other, int v, int w) {
        return has(one, other, v, w) >= has(1 - one, other, v, w)
                && has(other, one, v, w) >= has(1 - other, one, v, w);
    }

    private static int has(int own, int other, int v, int w) {
        if (own == other) {
            return own == 0 ? v : 0;
        }
        return own == 1 ? w : -1;
    }

    private int almsUpTo(int bound, int pilgrims) {
        int sum = 0;
        for (int p = 0; p < now.house.pilgrims; p++) {
            if ((pilgrims >> p & 1) != 0) {
                sum += Math.min(bound, now.house.need[p]);
            }
        }
        return sum;
    }

    /** The bytes that were fed; a text is read from their left, and its first fault is kept. */
    private static final class Tape {
        private static final int FED = 20;
        private static final int END = -1;
        private static final int BLANK = 32;
        /** Far above every number that can stand in a text, and far below where an int wraps. */
        private static final int HUGE = 1000000;

        private final byte[] bytes = new byte[MOST_BYTES];
        private int size;
        private int end;
        private int at;
        private int tokenStart;
        private int faultKind;
        private int faultPlace = NONE;

        private boolean hasRoom() {
            return size + FED <= bytes.length;
        }

        private void put(int number) {
            for (int shift = 24; shift >= 0 && size < bytes.length; shift -= 8) {
                bytes[size] = (byte) (number >> shift);
                size++;
            }
        }

        private void open(int n) {
            end = n;
            size = 0;
            at = 0;
            tokenStart = 0;
            faultKind = 0;
            faultPlace = NONE;
        }

        private boolean isSound() {
            return faultKind == 0;
        }

        private void mark(int kind, int place) {
            if (faultKind == 0) {
                faultKind = kind;
                faultPlace = place;
            }
        }

        private int byteAt(int place) {
            return place >= 0 && place < end && place < bytes.length ? bytes[place] & 255 : END;
        }

        /** What stands next behind the blanks. */
        private int next() {
            while (at < end && at < bytes.length && bytes[at] == BLANK) {
                at++;
            }
            tokenStart = at;
            return at < end && at < bytes.length ? bytes[at] & 255 : END;
        }

        /** Which one of these signs it was that stood there, or NONE: then it is still there. */
        private int takeOne(String signs) {
            int sign = next();
            int which = sign == END ? NONE : signs.indexOf((char) sign);
            if (which != NONE) {
                at++;
            }
            return which;
        }

        private void demand(char sign) {
            if (next() == sign) {
                at++;
            } else {
                mark(CANNOT_STAND, at);
            }
        }

        private boolean isDigit(int sign) {
            return sign >= '0' && sign <= '9';
        }

        private boolean isLetter(int sign) {
            return sign >= 'a' && sign <= 'z';
        }

        private int number(int least, int most) {
            if (!isDigit(next())) {
                mark(CANNOT_STAND, at);
                return NONE;
            }
            int value = 0;
            while (at < end && isDigit(byteAt(at))) {
                value = Math.min(HUGE, value * 10 + byteAt(at) - '0');
                at++;
            }
            if (value < least || value > most) {
                mark(NO_SUCH_NUMBER, tokenStart);
                return NONE;
            }
            return value;
        }

        /** The place of a word in a row of words with one blank between two. */
        private int word(String row) {
            next();
            while (at < end && isLetter(byteAt(at))) {
                at++;
            }
            int which = 0;
            int start = 0;
            for (int i = 0; i <= row.length(); i++) {
                if (i == row.length() || row.charAt(i) == ' ') {
                    if (isToken(row, start, i)) {
                        return which;
                    }
                    which++;
                    start = i + 1;
                }
            }
            mark(CANNOT_STAND, tokenStart);
            return NONE;
        }

        private boolean isToken(String row, int start, int stop) {
            if (stop - start != at - tokenStart) {
                return false;
            }
            for (int i = start; i < stop && i < row.length(); i++) {
                if (row.charAt(i) != byteAt(tokenStart + i - start)) {
                    return false;
                }
            }
            return true;
        }
    }

    /** What a house's text tells, and no work changes. */
    private static final class House {
        private static final String CLAUSES = "sister relic pilgrim vow";
        private static final int A_SISTER = 0;
        private static final int A_RELIC = 1;
        private static final int A_PILGRIM = 2;

        private final int[] temptation = new int[MOST_SISTERS];
        private final int[] relicsOf = new int[MOST_SISTERS];
        private final int[] vow = new int[MOST_SISTERS];
        private final int[] owner = new int[MOST_RELICS];
        private final int[] against = new int[MOST_RELICS];
        private final int[] worth = new int[MOST_RELICS];
        private final int[] ill = new int[MOST_PILGRIMS];
        private final int[] need = new int[MOST_PILGRIMS];
        private int sisters;
        private int relics;
        private int pilgrims;

        private boolean hasSister(int number) {
            return number >= 0 && number < sisters;
        }

        private boolean hasRelic(int number) {
            return number >= 0 && number < relics;
        }

        private boolean hasPilgrim(int number) {
            return number >= 0 && number < pilgrims;
        }

        private void read(Tape tape) {
            sisters = 0;
            relics = 0;
            pilgrims = 0;
            for (int ahead = 0; ahead <= MOST_CLAUSES && tape.isSound() && tape.next() != Tape.END; ahead++) {
                readClause(tape, ahead);
            }
        }

        private void readClause(Tape tape, int ahead) {
            int kind = tape.word(CLAUSES);
            if (kind == NONE) {
                return;
            }
            if (ahead == MOST_CLAUSES || isFull(kind)) {
                tape.mark(TOO_MANY, tape.tokenStart);
                return;
            }
            if (kind == A_SISTER) {
                readSister(tape);
            } else if (kind == A_RELIC) {
                readRelic(tape);
            } else if (kind == A_PILGRIM) {
                readPilgrim(tape);
            } else {
                readVow(tape);
            }
            tape.demand(';');
        }

        private boolean isFull(int kind) {
            return kind == A_SISTER && sisters >= MOST_SISTERS
                    || kind == A_RELIC && relics >= MOST_RELICS
                    || kind == A_PILGRIM && pilgrims >= MOST_PILGRIMS;
        }

        private void readSister(Tape tape) {
            int t = tape.number(0, SIXTEENTHS - 1);
            if (tape.isSound() && sisters < MOST_SISTERS) {
                temptation[sisters] = t;
                relicsOf[sisters] = 0;
                vow[sisters] = NONE;
                sisters++;
            }
        }

        private void readRelic(Tape tape) {
            int s = tape.number(0, sisters - 1);
            int k = tape.number(0, ILLS - 1);
            int w = tape.number(1, 30);
            if (tape.isSound() && hasSister(s) && relics < MOST_RELICS) {
                owner[relics] = s;
                against[relics] = k;
                worth[relics] = w;
                relicsOf[s] |= 1 << relics;
                relics++;
            }
        }

        private void readPilgrim(Tape tape) {
            int k = tape.number(0, ILLS - 1);
            int n = tape.number(1, 99);
            if (tape.isSound() && pilgrims < MOST_PILGRIMS) {
                ill[pilgrims] = k;
                need[pilgrims] = n;
                pilgrims++;
            }
        }

        private void readVow(Tape tape) {
            int a = tape.number(0, sisters - 1);
            int b = tape.number(0, sisters - 1);
            if (tape.isSound() && hasSister(a)) {
                vow[a] = b;
            }
        }

        private int walk(int sister, int vows) {
            int at = sister;
            for (int i = 0; i < vows && hasSister(at); i++) {
                at = vow[at];
            }
            return at;
        }

        private int ringOf(int sister) {
            int at = sister;
            for (int vows = 1; vows <= MOST_SISTERS && hasSister(at); vows++) {
                at = vow[at];
                if (at == sister) {
                    return vows;
                }
            }
            return NONE;
        }
    }

    /** What a relic can, as a row of items that a stack works off. */
    private static final class Law {
        private static final int WORTH = 0;
        private static final int DAYS = 1;
        private static final int LAPSES = 2;
        private static final int TEMPTED = 3;
        private static final int ILL = 4;
        private static final int OTHERS = 5;
        private static final int SISTER = 6;
        private static final int DAY = 7;
        private static final int INPUTS = 8;
        private static final String WORDS = "worth days lapses tempted ill others sister day least most";
        private static final int WORD_LEAST = 8;

        /** Items below are numbers, from here on inputs. */
        private static final int AN_INPUT = 1000;
        private static final int PLUS = 2000;
        private static final int MINUS = 2001;
        private static final int TIMES = 2002;
        private static final int DIVIDE = 2003;
        private static final int REMAIN = 2004;
        /** Behind it, in the order of the words: most. */
        private static final int LEAST = 2005;

        /** Three values at most wait on each level: one of least or most, one of a sum, one of a product. */
        private static final int DEPTH = 3 * (MOST_OPEN + 2);

        private final int[] items = new int[MOST_LAW_BYTES];
        private final int[] stack = new int[DEPTH];
        private int length;

        private void setPlain() {
            length = 0;
            add(AN_INPUT + WORTH);
            add(AN_INPUT + DAYS);
            add(PLUS);
            add(AN_INPUT + LAPSES);
            add(2);
            add(TIMES);
            add(MINUS);
        }

        private void add(int item) {
            if (length < items.length) {
                items[length] = item;
                length++;
            }
        }

        private void read(Tape tape) {
            length = 0;
            readSum(tape, 0);
            if (tape.isSound() && tape.next() != Tape.END) {
                tape.mark(CANNOT_STAND, tape.at);
            }
        }

        private void readSum(Tape tape, int open) {
            readProduct(tape, open);
            for (int i = 0; i < MOST_LAW_BYTES && tape.isSound(); i++) {
                int which = tape.takeOne("+-");
                if (which == NONE) {
                    return;
                }
                readProduct(tape, open);
                add(PLUS + which);
            }
        }

        private void readProduct(Tape tape, int open) {
            readUnit(tape, open);
            for (int i = 0; i < MOST_LAW_BYTES && tape.isSound(); i++) {
                int which = tape.takeOne("*/%");
                if (which == NONE) {
                    return;
                }
                readUnit(tape, open);
                add(TIMES + which);
            }
        }

        private void readUnit(Tape tape, int open) {
            if (tape.isDigit(tape.next())) {
                add(tape.number(0, 999));
            } else if (tape.takeOne("(") != NONE) {
                if (mayOpen(tape, open)) {
                    readSum(tape, open + 1);
                    tape.demand(')');
                }
            } else {
                int which = tape.word(WORDS);
                if (which >= WORD_LEAST) {
                    if (mayOpen(tape, open)) {
                        readPair(tape, open + 1);
                        add(LEAST + which - WORD_LEAST);
                    }
                } else if (which != NONE) {
                    add(AN_INPUT + which);
                }
            }
        }

        private boolean mayOpen(Tape tape, int open) {
            if (open >= MOST_OPEN) {
                tape.mark(TOO_MANY, tape.tokenStart);
            }
            return open < MOST_OPEN;
        }

        private void readPair(Tape tape, int open) {
            tape.demand('[');
            if (tape.isSound()) {
                readSum(tape, open);
            }
            tape.demand(',');
            if (tape.isSound()) {
                readSum(tape, open);
            }
            tape.demand(']');
        }

        private int power(int[] inputs) {
            int top = 0;
            for (int i = 0; i < length; i++) {
                int item = items[i];
                if (item < PLUS) {
                    if (top < stack.length) {
                        stack[top] = item < AN_INPUT ? item : inputs[item - AN_INPUT];
                        top++;
                    }
                } else if (top >= 2) {
                    top--;
                    stack[top - 1] = combine(item, stack[top - 1], stack[top]);
                }
            }
            return Math.max(0, Math.min(MOST_POWER, stack[0]));
        }

        private static int combine(int item, int a, int b) {
            switch (item) {
                case PLUS:
                    return a + b;
                case MINUS:
                    return a - b;
                case TIMES:
                    return a * b;
                case DIVIDE:
                    return b == 0 ? 0 : a / b;
                case REMAIN:
                    return b == 0 ? 0 : a % b;
                case LEAST:
                    return a < b ? a : b;
                default:
                    return a > b ? a : b;
            }
        }
    }

    /** A work: its steps in one row, and what came of them. */
    private static final class Script {
        private static final String VERBS = "give back lapse cure die day again";
        private static final int GIVE = 0;
        private static final int BACK = 1;
        private static final int LAPSE = 2;
        private static final int CURE = 3;
        private static final int DIE = 4;
        private static final int A_DAY = 5;
        private static final int AGAIN = 6;

        /** The shortest step has four bytes: day and its end. */
        private static final int MOST_VERBS = MOST_WORK_BYTES / 4;

        private final int[] verbs = new int[MOST_VERBS];
        private final int[] firsts = new int[MOST_VERBS];
        private final int[] seconds = new int[MOST_VERBS];
        /** Of an again: the step behind its last one. */
        private final int[] ends = new int[MOST_VERBS];
        private int length;
        private int begun;
        private int done;
        private int refused;

        private void read(Tape tape, House house) {
            length = 0;
            begun = 0;
            done = 0;
            refused = 0;
            readSteps(tape, house, 0);
        }

        private void readSteps(Tape tape, House house, int open) {
            for (int i = 0; i < MOST_WORK_BYTES && tape.isSound(); i++) {
                if (tape.next() == (open == 0 ? Tape.END : ']')) {
                    return;
                }
                readStep(tape, house, open);
            }
        }

        private void readStep(Tape tape, House house, int open) {
            int verb = tape.word(VERBS);
            if (verb == NONE || length >= verbs.length) {
                return;
            }
            int step = length;
            length++;
            verbs[step] = verb;
            if (verb == AGAIN) {
                readAgain(tape, house, open, step);
            } else if (verb == LAPSE || verb == DIE) {
                firsts[step] = tape.number(0, house.sisters - 1);
            } else if (verb != A_DAY) {
                firsts[step] = tape.number(0, house.relics - 1);
            }
            if (verb == CURE) {
                seconds[step] = tape.number(0, house.pilgrims - 1);
            }
            tape.demand(';');
        }

        private void readAgain(Tape tape, House house, int open, int step) {
            if (open >= MOST_OPEN) {
                tape.mark(TOO_MANY, tape.tokenStart);
                return;
            }
            firsts[step] = tape.number(0, 40);
            tape.demand('[');
            readSteps(tape, house, open + 1);
            tape.demand(']');
            ends[step] = length;
        }

        private void carryOut(Convent convent, int from, int to, int open) {
            int step = from;
            while (step < to && step < verbs.length && begun < MOST_STEPS) {
                begun++;
                if (verbs[step] != AGAIN) {
                    if (isDone(convent, verbs[step], firsts[step], seconds[step])) {
                        done++;
                    } else {
                        refused++;
                    }
                    step++;
                } else {
                    for (int i = 0; i < firsts[step] && open < MOST_OPEN && begun < MOST_STEPS; i++) {
                        carryOut(convent, step + 1, ends[step], open + 1);
                    }
                    step = Math.max(step + 1, ends[step]);
                }
            }
        }

        private static boolean isDone(Convent convent, int verb, int first, int second) {
            switch (verb) {
                case GIVE:
                    return convent.give(first);
                case BACK:
                    return convent.giveBack(first);
                case LAPSE:
                    return convent.lapse(first);
                case CURE:
                    return convent.cure(first, second);
                case DIE:
                    return convent.die(first);
                default:
                    return convent.cells[Convent.DAY] < LAST_DAY && convent.passDay();
            }
        }
    }

    /** What was seen today of each relic; NONE: it is in no line. */
    private static final class Sight {
        private final int[] power = new int[MOST_RELICS];
        private int lines;

        private Sight() {
            clear();
        }

        private void clear() {
            lines = 0;
            for (int r = 0; r < power.length; r++) {
                power[r] = NONE;
            }
        }

        private void read(Tape tape, House house) {
            clear();
            for (int i = 0; i < MOST_SEEN_BYTES && tape.isSound() && tape.next() != Tape.END; i++) {
                readLine(tape, house);
            }
        }

        private void readLine(Tape tape, House house) {
            int relic = tape.number(0, house.relics - 1);
            if (!house.hasRelic(relic)) {
                return;
            }
            if (power[relic] != NONE) {
                tape.mark(NO_SUCH_NUMBER, tape.tokenStart);
            }
            power[relic] = tape.number(0, MOST_POWER);
            lines++;
            tape.demand(';');
        }
    }

    /** A house, its law, and all that work changes: the cells, in one row so that they copy at once. */
    private static final class Convent {
        private static final int DAY = 0;
        private static final int LIVING = 1;
        private static final int KEPT = 2;
        private static final int CURED = 3;
        private static final int USED = 4;
        private static final int DAYS = 5;
        private static final int LAPSES = DAYS + MOST_RELICS;
        private static final int CURERS = LAPSES + MOST_SISTERS;
        private static final int WIDTH = CURERS + MOST_PILGRIMS;

        private final int[] cells = new int[WIDTH];
        private final int[] inputs = new int[Law.INPUTS];
        private House house;
        private Law law;

        private Convent(House house, Law law) {
            this.house = house;
            this.law = law;
            begin();
        }

        private void begin() {
            for (int i = 0; i < WIDTH; i++) {
                cells[i] = i < CURERS ? 0 : NONE;
            }
            cells[LIVING] = (1 << house.sisters) - 1;
            law.setPlain();
        }

        private void copyOf(Convent other) {
            house = other.house;
            law = other.law;
            System.arraycopy(other.cells, 0, cells, 0, WIDTH);
        }

        private boolean isKept(int relic) {
            return (cells[KEPT] >> relic & 1) != 0;
        }

        private boolean isCured(int pilgrim) {
            return (cells[CURED] >> pilgrim & 1) != 0;
        }

        private boolean isUsed(int relic) {
            return (cells[USED] >> relic & 1) != 0;
        }

        private boolean isLiving(int sister) {
            return (cells[LIVING] >> sister & 1) != 0;
        }

        private int keptOf(int sister) {
            return cells[KEPT] & house.relicsOf[sister];
        }

        /** Living sisters who have a kept relic: those who can lapse. */
        private int keepers() {
            int bits = 0;
            for (int s = 0; s < house.sisters; s++) {
                if (isLiving(s) && keptOf(s) != 0) {
                    bits |= 1 << s;
                }
            }
            return bits;
        }

        private int powerIf(int relic, int days, int lapses, int day) {
            if (!isKept(relic)) {
                return 0;
            }
            int sister = house.owner[relic];
            inputs[Law.WORTH] = house.worth[relic];
            inputs[Law.DAYS] = days;
            inputs[Law.LAPSES] = lapses;
            inputs[Law.TEMPTED] = house.temptation[sister];
            inputs[Law.ILL] = house.against[relic];
            inputs[Law.OTHERS] = Integer.bitCount(keptOf(sister) & ~(1 << relic));
            inputs[Law.SISTER] = sister;
            inputs[Law.DAY] = day;
            return law.power(inputs);
        }

        private int powerIn(int relic, int days) {
            return powerIf(relic, cells[DAYS + relic] + days, cells[LAPSES + house.owner[relic]], cells[DAY] + days);
        }

        private int powerIfLapsed(int relic, int days) {
            return powerIf(relic, cells[DAYS + relic] / 2 + days, cells[LAPSES + house.owner[relic]] + 1,
                    cells[DAY] + days);
        }

        private int powerOf(int relic) {
            return powerIn(relic, 0);
        }

        private int powerOfAll() {
            int sum = 0;
            for (int r = 0; r < house.relics; r++) {
                sum += powerOf(r);
            }
            return sum;
        }

        private boolean canIn(int relic, int pilgrim, int days) {
            int lapses = cells[LAPSES + house.owner[relic]];
            return house.against[relic] == house.ill[pilgrim]
                    && powerIf(relic, cells[DAYS + relic] + days, lapses, cells[DAY] + days) >= house.need[pilgrim];
        }

        private int relicsThatCan(int pilgrim, int days) {
            int bits = 0;
            for (int r = 0; r < house.relics; r++) {
                if (canIn(r, pilgrim, days)) {
                    bits |= 1 << r;
                }
            }
            return bits;
        }

        private boolean give(int relic) {
            if (isKept(relic) || !isLiving(house.owner[relic])) {
                return false;
            }
            cells[KEPT] |= 1 << relic;
            cells[DAYS + relic] = 0;
            return true;
        }

        private boolean giveBack(int relic) {
            if (!isKept(relic)) {
                return false;
            }
            cells[KEPT] &= ~(1 << relic);
            return true;
        }

        private boolean lapse(int sister) {
            if (!isLiving(sister) || keptOf(sister) == 0) {
                return false;
            }
            cells[LAPSES + sister]++;
            for (int r = 0; r < house.relics; r++) {
                if (isKept(r) && house.owner[r] == sister) {
                    cells[DAYS + r] = cells[DAYS + r] / 2;
                }
            }
            return true;
        }

        private boolean cure(int relic, int pilgrim) {
            if (isCured(pilgrim) || isUsed(relic) || !canIn(relic, pilgrim, 0)) {
                return false;
            }
            cells[CURED] |= 1 << pilgrim;
            cells[USED] |= 1 << relic;
            cells[CURERS + pilgrim] = relic;
            return true;
        }

        private boolean die(int sister) {
            if (!isLiving(sister)) {
                return false;
            }
            cells[LIVING] &= ~(1 << sister);
            cells[KEPT] &= ~house.relicsOf[sister];
            return true;
        }

        private boolean passDay() {
            for (int r = 0; r < house.relics; r++) {
                if (isKept(r)) {
                    cells[DAYS + r]++;
                }
            }
            cells[USED] = 0;
            cells[DAY]++;
            return true;
        }
    }

    /** Rows of cells, the latest on top. */
    private static final class Shelf {
        private final int most;
        private final int width;
        private final int[] rows;
        private int height;

        private Shelf(int most, int width) {
            this.most = most;
            this.width = width;
            this.rows = new int[most * width];
        }

        private boolean isFull() {
            return height >= most;
        }

        private void push(int[] row) {
            if (height < most && row.length == width) {
                System.arraycopy(row, 0, rows, height * width, width);
                height++;
            }
        }

        private void pop(int[] row) {
            if (height > 0 && row.length == width) {
                height--;
                System.arraycopy(rows, height * width, row, 0, width);
            }
        }

        private void copyOf(Shelf other) {
            if (other.width == width && other.height <= most) {
                System.arraycopy(other.rows, 0, rows, 0, other.height * width);
                height = other.height;
            }
        }
    }

    /**
     * The sets of sisters who may have lapsed. A relic's power depends on no other sister, so that
     * each sister alone says whether she may be in a set and whether she may be outside of it.
     */
    private static final class Suspects {
        private int all;
        private int mayBeIn;
        private int mayBeOut;

        private void weigh(Convent convent, Sight sight) {
            all = (1 << convent.house.sisters) - 1;
            mayBeIn = convent.keepers();
            mayBeOut = all;
            for (int r = 0; r < convent.house.relics; r++) {
                if (sight.power[r] != NONE) {
                    int sister = 1 << convent.house.owner[r];
                    if (convent.powerOf(r) != sight.power[r]) {
                        mayBeOut &= ~sister;
                    }
                    if (convent.powerIfLapsed(r, 0) != sight.power[r]) {
                        mayBeIn &= ~sister;
                    }
                }
            }
        }

        private boolean isPossible(int set) {
            return (set & ~mayBeIn) == 0 && (all & ~set & ~mayBeOut) == 0;
        }

        /** How many sets have all of some sisters and none of others. */
        private int sets(int with, int without) {
            int many = 0;
            for (int set = 0; set <= all; set++) {
                if (isPossible(set) && (set & with) == with && (set & without) == 0) {
                    many++;
                }
            }
            return many;
        }

        private int firstSet() {
            for (int set = 0; set <= all; set++) {
                if (isPossible(set)) {
                    return set;
                }
            }
            return NONE;
        }

        /** Who may not be outside is in every set, and the first set has nobody else. */
        private int sureOnes() {
            int first = firstSet();
            return first == NONE ? 0 : first;
        }

        private int leftAtWorst(Convent convent, int relic) {
            if (convent.powerOf(relic) == convent.powerIfLapsed(relic, 0)) {
                return sets(0, 0);
            }
            int sister = 1 << convent.house.owner[relic];
            return Math.max(sets(sister, 0), sets(0, sister));
        }
    }

    /** Which pilgrim is given which relic. */
    private static final class Pairing {
        private final int[] able = new int[MOST_PILGRIMS];
        private final int[] chosen = new int[MOST_PILGRIMS];
        private final int[] taker = new int[MOST_RELICS];
        private int tried;

        private void pair(Convent convent) {
            int pilgrims = convent.house.pilgrims;
            int relics = convent.house.relics;
            for (int p = 0; p < pilgrims; p++) {
                able[p] = convent.isCured(p) ? 0 : convent.relicsThatCan(p, 0) & ~convent.cells[Convent.USED];
            }
            int free = (1 << relics) - 1;
            int left = mostPairs(0, pilgrims, free);
            for (int p = 0; p < pilgrims; p++) {
                chosen[p] = NONE;
                for (int r = 0; r < relics && chosen[p] == NONE; r++) {
                    if ((able[p] & free & 1 << r) != 0 && 1 + mostPairs(p + 1, pilgrims, free & ~(1 << r)) == left) {
                        chosen[p] = r;
                        free &= ~(1 << r);
                        left--;
                    }
                }
            }
        }

        private int mostPairs(int from, int pilgrims, int free) {
            for (int r = 0; r < taker.length; r++) {
                taker[r] = NONE;
            }
            int many = 0;
            for (int p = from; p < pilgrims; p++) {
                tried = 0;
                if (findsRelic(p, free, 0)) {
                    many++;
                }
            }
            return many;
        }

        private boolean findsRelic(int pilgrim, int free, int depth) {
            if (pilgrim < 0 || pilgrim >= able.length || depth > MOST_PILGRIMS) {
                return false;
            }
            for (int r = 0; r < taker.length; r++) {
                if ((able[pilgrim] & free & ~tried & 1 << r) != 0) {
                    tried |= 1 << r;
                    if (taker[r] == NONE || findsRelic(taker[r], free, depth + 1)) {
                        taker[r] = pilgrim;
                        return true;
                    }
                }
            }
            return false;
        }
    }

    /** Days by a seed, which go by in a convent of their own. */
    private static final class Year {
        private final Convent trial;
        private int seed;
        private int cured;
        private int lapses;

        private Year(House house, Law law) {
            trial = new Convent(house, law);
        }

        private void pass(Convent from, int firstSeed, int days) {
            trial.copyOf(from);
            seed = firstSeed;
            cured = 0;
            lapses = 0;
            for (int i = 0; i < days; i++) {
                drawLapses();
                drawCure();
                trial.passDay();
            }
        }

        private void drawLapses() {
            for (int s = 0; s < trial.house.sisters; s++) {
                if (trial.isLiving(s) && trial.keptOf(s) != 0
                        && draw(SIXTEENTHS) < trial.house.temptation[s] && trial.lapse(s)) {
                    lapses++;
                }
            }
        }

        private void drawCure() {
            if (trial.house.relics > 0 && trial.house.pilgrims > 0) {
                int relic = draw(trial.house.relics);
                int pilgrim = draw(trial.house.pilgrims);
                if (trial.cure(relic, pilgrim)) {
                    cured++;
                }
            }
        }

        private int draw(int many) {
            seed = seed * 1103515245 + 12345;
            return many > 0 ? (seed >>> 16 & 32767) % many : 0;
        }
    }
}
