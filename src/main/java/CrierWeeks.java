/**
 * A duchy whose town crier has just so many words a week. The document's promises
 * bind the public methods; every object that a call needs is made in the constructor.
 */
public final class CrierWeeks {
    public static final int NONE = -1000000, BAD = -1000001, STATE = -1000002, FULL = -1000003;

    private static final int FOUND = -1000010, FAULTY = -1000100;
    private static final int NULL = 1, PLACE = 2, KIND = 3, SIZE = 4, STORE = 5;

    private static final int ROWS = 8, ITEMS = 40, BYTES = 0, SHORTS = 1, INTS = 2;
    private static final int TAPE = 120, PEOPLE = 5, SPEECHES = 6, KEPT_ACTS = 24, IMAGES = 2, TRACED = 16;
    private static final int MOST_PURSE = 99, MOST_BANKED = 99, MOST_LEFT = 99, MOST_HILL = 999, MOST_WEEK = 999;
    private static final int MOST_AHEAD = 60, MOST_PASSED = 30, MOST_ROW_WEEKS = 12, MOST_THRIFT = 60;
    private static final int NEVER = 1000000;
    private static final int MOST_RATION = 60, MOST_PRICE = 9, MOST_INCOME = 20, MOST_LENGTH = 30;

    private static final int ANY_KIND = 0, NOTICE = 1, BIRTH = 2, STAMMER = 3, WHISPER = 4, ECHO = 5;
    private static final int[] KIND_ABOVE = {-1, ANY_KIND, NOTICE, NOTICE, ANY_KIND, WHISPER};

    private final Row[] rows = new Row[ROWS];
    private final Image[] images = new Image[IMAGES];
    private final Town town = new Town();
    private final Stand stand = new Stand(town);
    private final Stand trial = new Stand(town);
    private final Past past = new Past(town);
    private final Orders orders = new Orders(town);
    private final Thrift saver = new Thrift();
    private final Reader reader = new Reader();
    private final Asks asks = new Asks(town, stand);
    private int status;

    public CrierWeeks() {
        for (int i = 0; i < ROWS; i++) {
            rows[i] = new Row();
        }
        for (int k = 0; k < IMAGES; k++) {
            images[k] = new Image();
        }
    }

    // ---- rows

    public int row(int row, int lane, int n) {
        if (!isRow(row) || !within(lane, BYTES, INTS) || n > ITEMS) {
            return BAD;
        }
        if (n < 0) {
            return found(SIZE);
        }
        rows[row].begin(lane, n);
        return fine(n);
    }

    public int set(int row, int i, int v) {
        if (!isRow(row)) {
            return BAD;
        }
        int finding = stretchFinding(row, i, 1);
        if (finding != 0) {
            return found(finding);
        }
        return fine(rows[row].put(i, v));
    }

    public int copy(int a, int i, int b, int j, int n) {
        if (!isRow(a) || !isRow(b)) {
            return BAD;
        }
        Row from = rows[a];
        Row to = rows[b];
        if (!from.there || !to.there) {
            return found(NULL);
        }
        if (from.lane != to.lane) {
            return found(STORE);
        }
        if (!from.holds(i, n) || !to.holds(j, n)) {
            return found(PLACE);
        }
        System.arraycopy(from.items, i, to.items, j, n);
        return fine(n);
    }

    public int drop(int row) {
        if (!isRow(row)) {
            return BAD;
        }
        if (!rows[row].there) {
            return found(NULL);
        }
        rows[row].there = false;
        return fine(rows[row].size);
    }

    // ---- what is told

    public int feed(int letter) {
        if (!within(letter, 0, 255)) {
            return BAD;
        }
        return reader.append(letter) ? reader.length : FULL;
    }

    public int duchy() {
        if (!reader.readTape()) {
            return FAULTY - reader.place;
        }
        town.takeFrom(reader.town);
        stand.takeFrom(reader.stand);
        past.forget();
        return town.speeches;
    }

    public int fault() {
        return reader.fault;
    }

    public int undo() {
        return past.giveBack(stand) ? past.kept : STATE;
    }

    // ---- what is done

    public int weeks(int n) {
        if (noDuchy()) {
            return STATE;
        }
        if (!within(n, 1, 24)) {
            return BAD;
        }
        if (stand.week + n > MOST_WEEK) {
            return FULL;
        }
        for (int w = 0; w < n; w++) {
            past.keep(stand);
            stand.passWeeks(1);
        }
        return stand.hill;
    }

    public int say(int speech) {
        if (!town.hasSpeech(speech)) {
            return BAD;
        }
        if (!stand.canSay(speech)) {
            return STATE;
        }
        past.keep(stand);
        return stand.speak(speech);
    }

    public int buy(int person, int n) {
        if (!town.hasPerson(person) || !within(n, 1, 60)) {
            return BAD;
        }
        if (!stand.canBank(person, n)) {
            return STATE;
        }
        past.keep(stand);
        return stand.bank(person, n);
    }

    public int letOut(int n) {
        if (noDuchy()) {
            return STATE;
        }
        if (!within(n, 1, 99)) {
            return BAD;
        }
        if (n > stand.hill || stand.left + n > MOST_LEFT) {
            return STATE;
        }
        past.keep(stand);
        stand.hill -= n;
        stand.left += n;
        return stand.left;
    }

    public int price(int v) {
        if (noDuchy()) {
            return STATE;
        }
        if (!within(v, 1, MOST_PRICE)) {
            return BAD;
        }
        past.keep(stand);
        int before = stand.price;
        stand.price = v;
        return before;
    }

    public int speech(int speech, int what) {
        if (!town.hasSpeech(speech)) {
            return BAD;
        }
        switch (what) {
            case 0: return town.speakers[speech];
            case 1: return town.lengths[speech];
            case 2: return town.needs[speech] == speech ? NONE : town.needs[speech];
            case 3: return town.words(speech);
            case 4: return stand.crowns(speech);
            case 5: return stand.canSay(speech) ? 1 : 0;
            case 6: return stand.known[speech];
            case 7: return stand.understanders(speech);
            case 8: return stand.isSaid(speech) ? 1 : 0;
            default: return BAD;
        }
    }

    public int person(int person, int what) {
        if (!town.hasPerson(person)) {
            return BAD;
        }
        switch (what) {
            case 0: return stand.purses[person];
            case 1: return town.incomes[person];
            case 2: return stand.banked[person];
            case 3: return stand.knownTo(person);
            case 4: return stand.understoodBy(1 << person);
            default: return BAD;
        }
    }

    public int stand(int what) {
        if (noDuchy()) {
            return STATE;
        }
        switch (what) {
            case 0: return stand.left;
            case 1: return stand.hill;
            case 2: return stand.price;
            case 3: return town.ration;
            case 4: return stand.said;
            default: return BAD;
        }
    }

    // ---- foretold

    public int purse(int person, int n) {
        if (!town.hasPerson(person) || !within(n, 0, MOST_AHEAD)) {
            return BAD;
        }
        return stand.purseAhead(person, n);
    }

    public int hill(int n) {
        if (noDuchy()) {
            return STATE;
        }
        return within(n, 0, MOST_AHEAD) ? stand.hillAhead(n) : BAD;
    }

    public int known(int speech, int n) {
        if (!town.hasSpeech(speech) || !within(n, 0, MOST_AHEAD)) {
            return BAD;
        }
        return stand.knownAhead(speech, n);
    }

    public int allKnow(int speech) {
        if (!town.hasSpeech(speech)) {
            return BAD;
        }
        for (int w = 0; w <= MOST_AHEAD; w++) {
            if (stand.knownAhead(speech, w) == town.everyone()) {
                return w;
            }
        }
        return NONE;
    }

    public int when(int speech) {
        if (!town.hasSpeech(speech)) {
            return BAD;
        }
        return stand.isSaid(speech) ? STATE : stand.weeksTill(speech, MOST_AHEAD);
    }

    public int most(int what) {
        if (noDuchy()) {
            return STATE;
        }
        if (!within(what, 0, 2)) {
            return BAD;
        }
        int best = largestSet();
        if (what == 0) {
            return best;
        }
        int words = tryAllOf(best);
        return what == 1 ? words : Integer.bitCount(trial.understandersOfAll(best));
    }

    public int order(int k) {
        if (noDuchy()) {
            return STATE;
        }
        if (k < -1) {
            return BAD;
        }
        orders.findFirst(stand);
        return k == -1 ? orders.bestWeeks : orders.bestAt(k);
    }

    public int clear() {
        return noDuchy() ? STATE : stand.understoodBy(town.everyone());
    }

    public int deaf(int speech, int person, int n, int what) {
        if (!town.hasSpeech(speech) || !town.hasPerson(person)
                || !within(n, 0, MOST_PASSED) || !within(what, 0, 1)) {
            return BAD;
        }
        int fewest = fewestDeaf(speech, person, n);
        return fewest == NONE || what == 1 ? fewest : Integer.bitCount(fewest);
    }

    public int share(int person, int n) {
        if (!town.hasPerson(person) || !within(n, 0, 99)) {
            return BAD;
        }
        return stand.shareOf(person, n);
    }

    public int thrift(int person, int w, int row, int i, int n) {
        if (!town.hasPerson(person) || !within(w, 0, MOST_THRIFT) || !isRow(row) || !within(n, 1, MOST_ROW_WEEKS)) {
            return BAD;
        }
        int finding = stretchFinding(row, i, n);
        if (finding == 0 && !rows[row].allWithin(i, n, 1, MOST_PRICE)) {
            finding = KIND;
        }
        if (finding != 0) {
            return found(finding);
        }
        saver.begin(stand.purses[person], w);
        for (int k = 0; k < n; k++) {
            saver.passWeek(rows[row].items[i + k], town.ration, town.incomes[person]);
        }
        return fine(saver.mostLeft());
    }

    public int who(int speech, int which, int row, int i, int n) {
        if (!town.hasSpeech(speech) || !within(which, 0, 1) || !isRow(row) || !within(n, 1, MOST_ROW_WEEKS)) {
            return BAD;
        }
        int finding = stretchFinding(row, i, n);
        if (finding != 0) {
            return found(finding);
        }
        int fitting = 0;
        for (int kind = NOTICE; kind <= ECHO; kind++) {
            for (int p = 0; p < town.people; p++) {
                if (fitsCounts(kind, p, rows[row], i, n)) {
                    fitting |= 1 << (which == 0 ? kind : p);
                }
            }
        }
        return fine(fitting);
    }

    public int priced(int row, int i, int other, int j, int n) {
        if (!isRow(row) || !isRow(other) || !within(n, 1, MOST_ROW_WEEKS)) {
            return BAD;
        }
        int finding = stretchFinding(row, i, n);
        if (finding == 0) {
            finding = stretchFinding(other, j, n);
        }
        if (finding == 0 && !(rows[row].allWithin(i, n, 0, 999) && rows[other].allWithin(j, n, 1, MOST_PRICE))) {
            finding = KIND;
        }
        if (finding != 0) {
            return found(finding);
        }
        int crowns = 0;
        for (int k = 0; k < n; k++) {
            crowns += rows[row].items[i + k] * rows[other].items[j + k];
        }
        return fine(crowns);
    }

    public long heard(int speech, int person, int n, int p, int what) {
        if (!town.hasSpeech(speech) || !town.hasPerson(person)
                || !within(n, 0, MOST_PASSED) || !within(p, 0, 10) || !within(what, 0, 1)) {
            return BAD;
        }
        long cases = power(10, town.people - 1);
        long good = heardCases(speech, person, n, p);
        long divisor = commonDivisor(good, cases);
        if (divisor <= 0) {
            return BAD;
        }
        return what == 0 ? good / divisor : cases / divisor;
    }

    public int drawn(int n, int seed, int what) {
        if (noDuchy()) {
            return STATE;
        }
        if (!within(n, 0, MOST_AHEAD) || !within(seed, 1, 999999) || !within(what, 0, 1)) {
            return BAD;
        }
        drawTerms(n, seed);
        return what == 0 ? trial.said : trial.hill;
    }

    public int image(int k) {
        if (!within(k, 0, IMAGES - 1)) {
            return BAD;
        }
        if (noDuchy()) {
            return STATE;
        }
        images[k].town.takeFrom(town);
        images[k].stand.takeFrom(stand);
        images[k].kept = true;
        return 1;
    }

    public int restore(int k) {
        if (!within(k, 0, IMAGES - 1)) {
            return BAD;
        }
        if (!images[k].kept) {
            return STATE;
        }
        town.takeFrom(images[k].town);
        stand.takeFrom(images[k].stand);
        past.forget();
        return 1;
    }

    // ---- asked

    public int kind(int one) {
        return town.hasSpeech(one) ? town.kinds[one] : BAD;
    }

    public int as(int one, int kind) {
        if (!town.hasSpeech(one) || !within(kind, ANY_KIND, ECHO)) {
            return BAD;
        }
        return isKind(town.kinds[one], kind) ? fine(one) : found(KIND);
    }

    public int ask(int one, int what) {
        if (!town.hasSpeech(one) || !within(what, 0, 1)) {
            return BAD;
        }
        return asks.answer(one, what);
    }

    public int trace(int i) {
        return i >= 0 && i < asks.traced ? asks.bodies[i] : NONE;
    }

    public int count(int what) {
        switch (what) {
            case 0: return rowsThere();
            case 1: return town.people;
            case 2: return town.speeches;
            case 3: return stand.week;
            case 4: return stand.left;
            case 5: return stand.hill;
            case 6: return past.kept;
            case 7: return reader.length;
            default: return BAD;
        }
    }

    public int status() {
        return status;
    }

    // ---- what the calls share

    private static boolean within(int v, int least, int most) {
        return v >= least && v <= most;
    }

    private static boolean isRow(int row) {
        return row >= 0 && row < ROWS;
    }

    private boolean noDuchy() {
        return town.people == 0;
    }

    private int found(int finding) {
        status = finding;
        return FOUND - finding;
    }

    private int fine(int answer) {
        status = 0;
        return answer;
    }

    /** What is wrong with n ITEMS of a ROW from i on: NULL, PLACE, or 0. */
    private int stretchFinding(int row, int i, int n) {
        if (!rows[row].there) {
            return NULL;
        }
        return rows[row].holds(i, n) ? 0 : PLACE;
    }

    private int rowsThere() {
        int there = 0;
        for (int i = 0; i < ROWS; i++) {
            if (rows[i].there) {
                there++;
            }
        }
        return there;
    }

    private static boolean isKind(int kind, int asked) {
        int k = kind;
        for (int up = 0; up < KIND_ABOVE.length && k >= 0 && k < KIND_ABOVE.length; up++) {
            if (k == asked) {
                return true;
            }
            k = KIND_ABOVE[k];
        }
        return false;
    }

    /** The set that MOST tells; sets are tried from the least on, so the first of equals stays. */
    private int largestSet() {
        int best = 0;
        int bestWords = 0;
        for (int set = 1; set < 1 << town.speeches; set++) {
            int words = Integer.bitCount(set) < Integer.bitCount(best) ? NONE : tryAllOf(set);
            if (words == NONE) {
                continue;
            }
            if (Integer.bitCount(set) > Integer.bitCount(best) || words < bestWords) {
                best = set;
                bestWords = words;
            }
        }
        return best;
    }

    /** Says a set by numbers on the trial stand: words of LEFT that it takes, or NONE. */
    private int tryAllOf(int set) {
        trial.takeFrom(stand);
        int words = 0;
        for (int s = 0; s < town.speeches; s++) {
            if ((set >> s & 1) == 0) {
                continue;
            }
            if (!trial.canSay(s)) {
                return NONE;
            }
            words += trial.speak(s);
        }
        return words;
    }

    /** The set that DEAF tells, or NONE; WHO is left out because being never deaf it cannot help. */
    private int fewestDeaf(int speech, int person, int n) {
        int apart = 1 << person | 1 << town.speakers[speech];
        int best = NONE;
        for (int set = 0; set <= town.everyone(); set++) {
            boolean fewer = best == NONE || Integer.bitCount(set) < Integer.bitCount(best);
            if ((set & apart) == 0 && fewer && (stand.passedOn(speech, set, n) >> person & 1) == 0) {
                best = set;
            }
        }
        return best;
    }

    private boolean fitsCounts(int kind, int speaker, Row row, int i, int n) {
        int reached = town.reachedBySaying(kind, speaker, 0);
        for (int k = 0; k < n; k++) {
            reached = town.onward(kind, reached, 0, 1);
            if (Integer.bitCount(reached) != row.items[i + k]) {
                return false;
            }
        }
        return true;
    }

    /** In how many of 10 to the power of all others the SPEECH comes to be KNOWN to the PERSON. */
    private long heardCases(int speech, int person, int n, int p) {
        int speaker = 1 << town.speakers[speech];
        long good = 0;
        for (int set = 0; set <= town.everyone(); set++) {
            if ((set & speaker) == 0 && (stand.passedOn(speech, set, n) >> person & 1) == 1) {
                int deafOnes = Integer.bitCount(set);
                good += power(p, deafOnes) * power(10 - p, town.people - 1 - deafOnes);
            }
        }
        return good;
    }

    private static long power(int base, int times) {
        long product = 1;
        for (int k = 0; k < times; k++) {
            product *= base;
        }
        return product;
    }

    private static long commonDivisor(long a, long b) {
        long x = a;
        long y = b;
        for (int step = 0; step < 100 && y != 0; step++) {
            long rest = x % y;
            x = y;
            y = rest;
        }
        return x;
    }

    private void drawTerms(int n, int seed) {
        trial.takeFrom(stand);
        long x = seed;
        for (int w = 0; w < n && town.speeches > 0; w++) {
            x = x * 16807 % 2147483647;
            int s = (int) (x % town.speeches);
            if (trial.canSay(s)) {
                trial.speak(s);
            }
            trial.passWeeks(1);
        }
    }

    /** A ROW; its ITEMS are held as ints that fit its LANE. */
    private static final class Row {
        final int[] items = new int[ITEMS];
        boolean there;
        int lane;
        int size;

        void begin(int newLane, int n) {
            there = true;
            lane = newLane;
            size = n;
            for (int i = 0; i < ITEMS; i++) {
                items[i] = 0;
            }
        }

        /** Whether n ITEMS from i on are there; size - n cannot wrap around, as n is not below 0. */
        boolean holds(int i, int n) {
            return n >= 0 && i >= 0 && i <= size - n;
        }

        int put(int i, int v) {
            items[i] = lane == BYTES ? (byte) v : lane == SHORTS ? (short) v : v;
            return items[i];
        }

        boolean allWithin(int i, int n, int least, int most) {
            for (int k = i; k < i + n; k++) {
                if (items[k] < least || items[k] > most) {
                    return false;
                }
            }
            return true;
        }
    }

    /** What a text tells of a DUCHY and no ACT changes; without PEOPLE there is no DUCHY. */
    private static final class Town {
        final int[] incomes = new int[PEOPLE];
        final int[] kinds = new int[SPEECHES];
        final int[] speakers = new int[SPEECHES];
        final int[] lengths = new int[SPEECHES];
        final int[] needs = new int[SPEECHES];
        int ration;
        int people;
        int speeches;

        void takeFrom(Town other) {
            ration = other.ration;
            people = other.people;
            speeches = other.speeches;
            System.arraycopy(other.incomes, 0, incomes, 0, PEOPLE);
            System.arraycopy(other.kinds, 0, kinds, 0, SPEECHES);
            System.arraycopy(other.speakers, 0, speakers, 0, SPEECHES);
            System.arraycopy(other.lengths, 0, lengths, 0, SPEECHES);
            System.arraycopy(other.needs, 0, needs, 0, SPEECHES);
        }

        boolean hasPerson(int p) {
            return p >= 0 && p < people;
        }

        boolean hasSpeech(int s) {
            return s >= 0 && s < speeches;
        }

        int everyone() {
            return (1 << people) - 1;
        }

        int words(int s) {
            switch (kinds[s]) {
                case NOTICE: return lengths[s];
                case BIRTH: return (lengths[s] + 1) / 2;
                case STAMMER: return 2 * lengths[s];
                default: return 0;
            }
        }

        int withBeside(int set) {
            int up = set << 1 | set >> (people - 1);
            int down = set >> 1 | set << (people - 1);
            return (set | up | down) & everyone();
        }

        int reachedBySaying(int kind, int speaker, int deafOnes) {
            if (kind != WHISPER && kind != ECHO) {
                return everyone();
            }
            int own = 1 << speaker;
            return own | withBeside(own) & ~deafOnes;
        }

        int onward(int kind, int reached, int deafOnes, int weeks) {
            int hopsAWeek = kind == WHISPER ? 1 : kind == ECHO ? 2 : 0;
            // A hop that reaches nobody new is the last that matters, so PEOPLE hops are all there can be.
            int hops = Math.min(PEOPLE, weeks * hopsAWeek);
            int all = reached;
            for (int h = 0; h < hops; h++) {
                all |= withBeside(all) & ~deafOnes;
            }
            return all;
        }
    }

    /** What WEEKS and ACTS change in a DUCHY. */
    private static final class Stand {
        final Town town;
        final int[] purses = new int[PEOPLE];
        final int[] banked = new int[PEOPLE];
        final int[] known = new int[SPEECHES];
        int week;
        int left;
        int hill;
        int price;
        int said;

        Stand(Town itsTown) {
            town = itsTown;
        }

        void takeFrom(Stand other) {
            week = other.week;
            left = other.left;
            hill = other.hill;
            price = other.price;
            said = other.said;
            System.arraycopy(other.purses, 0, purses, 0, PEOPLE);
            System.arraycopy(other.banked, 0, banked, 0, PEOPLE);
            System.arraycopy(other.known, 0, known, 0, SPEECHES);
        }

        boolean isSaid(int s) {
            return (said >> s & 1) == 1;
        }

        int wordsOfLeft(int s) {
            return Math.max(0, town.words(s) - banked[town.speakers[s]]);
        }

        int crowns(int s) {
            switch (town.kinds[s]) {
                case WHISPER: return 1;
                case ECHO: return 1 + town.lengths[s];
                default: return wordsOfLeft(s) * price;
            }
        }

        boolean canSay(int s) {
            return !isSaid(s) && left >= wordsOfLeft(s) && purses[town.speakers[s]] >= crowns(s);
        }

        int speak(int s) {
            int speaker = town.speakers[s];
            int words = wordsOfLeft(s);
            purses[speaker] -= crowns(s);
            banked[speaker] -= town.words(s) - words;
            left -= words;
            said |= 1 << s;
            known[s] = town.reachedBySaying(town.kinds[s], speaker, 0);
            return words;
        }

        boolean canBank(int p, int n) {
            return n <= left && n * price <= purses[p] && banked[p] + n <= MOST_BANKED;
        }

        int bank(int p, int n) {
            left -= n;
            purses[p] -= n * price;
            banked[p] += n;
            return banked[p];
        }

        int purseAhead(int p, int n) {
            return Math.min(MOST_PURSE, purses[p] + n * town.incomes[p]);
        }

        int hillAhead(int n) {
            return n == 0 ? hill : Math.min(MOST_HILL, hill + left + (n - 1) * town.ration);
        }

        int knownAhead(int s, int n) {
            return town.onward(town.kinds[s], known[s], 0, n);
        }

        void passWeeks(int n) {
            for (int s = 0; s < town.speeches; s++) {
                known[s] = town.onward(town.kinds[s], known[s], 0, n);
            }
            for (int p = 0; p < town.people; p++) {
                purses[p] = purseAhead(p, n);
            }
            hill = hillAhead(n);
            left = n == 0 ? left : town.ration;
            week += n;
        }

        /** How many WEEKS go by till a SPEECH that is not SAID CAN be, most at most; NONE. */
        int weeksTill(int s, int most) {
            int words = wordsOfLeft(s);
            int lacking = crowns(s) - purses[town.speakers[s]];
            int wait = left >= words && lacking <= 0 ? 0 : Math.max(1, weeksToEarn(s, lacking));
            boolean everEnough = wait == 0 || town.ration >= words && crowns(s) <= MOST_PURSE;
            return everEnough && wait <= most ? wait : NONE;
        }

        private int weeksToEarn(int s, int lacking) {
            int income = town.incomes[town.speakers[s]];
            if (lacking <= 0) {
                return 0;
            }
            return income > 0 ? (lacking + income - 1) / income : NEVER;
        }

        int understanders(int s) {
            int needed = town.needs[s];
            return needed == s ? known[s] : known[s] & known[needed];
        }

        int understandersOfAll(int set) {
            int all = town.everyone();
            for (int s = 0; s < town.speeches; s++) {
                if ((set >> s & 1) == 1) {
                    all &= understanders(s);
                }
            }
            return all;
        }

        int knownTo(int p) {
            int set = 0;
            for (int s = 0; s < town.speeches; s++) {
                set |= (known[s] >> p & 1) << s;
            }
            return set;
        }

        /** SPEECHES that each one of some PEOPLE UNDERSTANDS. */
        int understoodBy(int peopleSet) {
            int set = 0;
            for (int s = 0; s < town.speeches; s++) {
                if ((understanders(s) & peopleSet) == peopleSet) {
                    set |= 1 << s;
                }
            }
            return set;
        }

        int passedOn(int s, int deafOnes, int n) {
            int speaker = town.speakers[s];
            int ears = deafOnes & ~(1 << speaker);
            int reached = isSaid(s) ? known[s] : town.reachedBySaying(town.kinds[s], speaker, ears);
            return town.onward(town.kinds[s], reached, ears, n);
        }

        int claim(int p) {
            int words = 0;
            for (int s = 0; s < town.speeches; s++) {
                if (town.speakers[s] == p && !isSaid(s)) {
                    words += town.words(s);
                }
            }
            return Math.max(0, words - banked[p]);
        }

        int shareOf(int p, int n) {
            int claims = 0;
            for (int q = 0; q < town.people; q++) {
                claims += claim(q);
            }
            if (claims == 0 || claim(p) == 0) {
                return 0;
            }
            int over = n;
            int claimantsAhead = 0;
            for (int q = 0; q < town.people; q++) {
                over -= n * claim(q) / claims;
                if (q < p && claim(q) > 0) {
                    claimantsAhead++;
                }
            }
            return n * claim(p) / claims + (claimantsAhead < over ? 1 : 0);
        }
    }

    /** How the DUCHY stood ahead of each of the latest ACTS, in a ring. */
    private static final class Past {
        final Stand[] stands = new Stand[KEPT_ACTS];
        int next;
        int kept;

        Past(Town town) {
            for (int i = 0; i < KEPT_ACTS; i++) {
                stands[i] = new Stand(town);
            }
        }

        void keep(Stand now) {
            stands[next].takeFrom(now);
            next = next + 1 < KEPT_ACTS ? next + 1 : 0;
            kept = Math.min(KEPT_ACTS, kept + 1);
        }

        boolean giveBack(Stand now) {
            if (kept == 0) {
                return false;
            }
            next = next > 0 ? next - 1 : KEPT_ACTS - 1;
            kept--;
            now.takeFrom(stands[next]);
            return true;
        }

        void forget() {
            kept = 0;
        }
    }

    private static final class Image {
        final Town town = new Town();
        final Stand stand = new Stand(town);
        boolean kept;
    }

    /** ORDER: orders are tried by numbers, and one is kept only if it is sooner than the one before. */
    private static final class Orders {
        final Town town;
        final Stand[] levels = new Stand[SPEECHES + 1];
        final int[] tried = new int[SPEECHES];
        final int[] best = new int[SPEECHES];
        int bestSize;
        int bestWeeks;

        Orders(Town itsTown) {
            town = itsTown;
            for (int i = 0; i <= SPEECHES; i++) {
                levels[i] = new Stand(itsTown);
            }
        }

        void findFirst(Stand now) {
            bestWeeks = NONE;
            bestSize = 0;
            levels[0].takeFrom(now);
            levels[0].week = 0;
            goOn(this, 0);
        }

        int bestAt(int k) {
            return k >= 0 && k < bestSize ? best[k] : NONE;
        }

        private static void goOn(Orders o, int depth) {
            if (depth < 0 || depth > SPEECHES) {
                return;
            }
            Stand at = o.levels[depth];
            if (at.said == (1 << o.town.speeches) - 1) {
                o.keepTried(depth, at.week);
                return;
            }
            if (depth == SPEECHES) {
                return;
            }
            for (int s = 0; s < o.town.speeches; s++) {
                int wait = at.isSaid(s) ? NONE : at.weeksTill(s, o.mostWeeks() - at.week);
                if (wait != NONE) {
                    Stand then = o.levels[depth + 1];
                    then.takeFrom(at);
                    then.passWeeks(wait);
                    then.speak(s);
                    o.tried[depth] = s;
                    goOn(o, depth + 1);
                }
            }
        }

        private int mostWeeks() {
            return bestWeeks == NONE ? MOST_AHEAD : bestWeeks - 1;
        }

        private void keepTried(int size, int weeksGone) {
            if (weeksGone > mostWeeks()) {
                return;
            }
            bestWeeks = weeksGone;
            bestSize = size;
            System.arraycopy(tried, 0, best, 0, size);
        }
    }

    /** THRIFT: the fullest PURSE for each count of words bought; a fuller one allows all that another does. */
    private static final class Thrift {
        final int[] fullest = new int[MOST_THRIFT + 1];
        int wanted;

        void begin(int purse, int words) {
            wanted = words;
            for (int b = 0; b <= MOST_THRIFT; b++) {
                fullest[b] = NONE;
            }
            fullest[0] = purse;
        }

        /** From most words down, so that what is read still stands as ahead of this WEEK. */
        void passWeek(int price, int ration, int income) {
            for (int b = wanted; b >= 0; b--) {
                int rest = NONE;
                for (int n = 0; n <= ration && n <= b; n++) {
                    int before = fullest[b - n];
                    if (before != NONE && before >= n * price) {
                        rest = Math.max(rest, before - n * price);
                    }
                }
                fullest[b] = rest == NONE ? NONE : Math.min(MOST_PURSE, rest + income);
            }
        }

        int mostLeft() {
            return fullest[wanted];
        }
    }

    /** Reads THE TAPE into a town and a stand of its own, so that a FAULT leaves the DUCHY as it is. */
    private static final class Reader {
        static final int END = -1, WRONG = -2, NUMBER = -3;
        static final int CANNOT_STAND = 1, NOT_AS_TOLD = 2, NO_ROOM = 3;

        final int[] tape = new int[TAPE];
        final Town town = new Town();
        final Stand stand = new Stand(town);
        int length;
        int fault;
        int place;
        private int read;
        private int next;
        private int token;
        private int number;
        private int taken;

        boolean append(int letter) {
            if (length >= TAPE) {
                return false;
            }
            tape[length] = letter;
            length++;
            return true;
        }

        /** If not so, fault and place tell the FAULT. */
        boolean readTape() {
            read = length;
            length = 0;
            next = 0;
            town.people = 0;
            town.speeches = 0;
            advance();
            return readLaw() && readPeople() && readSpeeches();
        }

        private boolean readLaw() {
            if (!takeSign('c') || !takeNumber(1, MOST_RATION)) {
                return false;
            }
            town.ration = taken;
            stand.left = taken;
            if (!takeSign(',') || !takeNumber(1, MOST_PRICE)) {
                return false;
            }
            stand.price = taken;
            return takeSign(';');
        }

        private boolean readPeople() {
            for (int p = 0; p <= PEOPLE && (p == 0 || token == 'z'); p++) {
                if (!readPerson()) {
                    return false;
                }
            }
            return true;
        }

        private boolean readPerson() {
            int p = town.people;
            if (token == 'z' && p >= PEOPLE) {
                return fail(NO_ROOM);
            }
            if (!takeSign('z') || !takeNumber(0, MOST_PURSE)) {
                return false;
            }
            stand.purses[p] = taken;
            if (!takeSign(',') || !takeNumber(0, MOST_INCOME)) {
                return false;
            }
            town.incomes[p] = taken;
            town.people++;
            return takeSign(';');
        }

        private boolean readSpeeches() {
            for (int s = 0; s <= SPEECHES && (s == 0 || token != END); s++) {
                if (!readSpeech()) {
                    return false;
                }
            }
            return true;
        }

        private boolean readSpeech() {
            int s = town.speeches;
            int kind = kindOfSort(token);
            if (kind == ANY_KIND) {
                return fail(CANNOT_STAND);
            }
            if (s >= SPEECHES) {
                return fail(NO_ROOM);
            }
            town.kinds[s] = kind;
            advance();
            if (!takeNumber(0, town.people - 1)) {
                return false;
            }
            town.speakers[s] = taken;
            if (!takeSign(',') || !takeNumber(1, MOST_LENGTH)) {
                return false;
            }
            town.lengths[s] = taken;
            if (!takeSign(',') || !takeNumber(0, s)) {
                return false;
            }
            town.needs[s] = taken;
            town.speeches++;
            return takeSign(';');
        }

        private static int kindOfSort(int letter) {
            switch (letter) {
                case 'n': return NOTICE;
                case 'b': return BIRTH;
                case 's': return STAMMER;
                case 'w': return WHISPER;
                case 'e': return ECHO;
                default: return ANY_KIND;
            }
        }

        private boolean takeSign(int sign) {
            if (token != sign) {
                return fail(CANNOT_STAND);
            }
            advance();
            return true;
        }

        private boolean takeNumber(int least, int most) {
            if (token != NUMBER) {
                return fail(CANNOT_STAND);
            }
            if (number < least || number > most) {
                return fail(NOT_AS_TOLD);
            }
            taken = number;
            advance();
            return true;
        }

        private boolean fail(int itsFault) {
            fault = itsFault;
            return false;
        }

        /** Reads the next TOKEN: a letter or a sign is its own byte. */
        private void advance() {
            place = next;
            if (next >= read) {
                token = END;
                return;
            }
            int first = tape[next];
            if (isFigure(first)) {
                readFigures();
                return;
            }
            boolean one = first >= 'a' && first <= 'z' || first == ',' || first == ';';
            token = one ? first : WRONG;
            next++;
        }

        private void readFigures() {
            int figures = 0;
            number = 0;
            for (; next < read && isFigure(tape[next]); next++) {
                figures++;
                number = figures > 2 ? 0 : number * 10 + tape[next] - '0';
            }
            token = figures > 2 ? WRONG : NUMBER;
        }

        private static boolean isFigure(int letter) {
            return letter >= '0' && letter <= '9';
        }
    }

    /** ASKS, with THE TRACE of the latest. */
    private static final class Asks {
        static final int[] SIZE_BODIES = {10, 11, 12, 11, 13, 14};
        static final int[] MARK_BODIES = {20, 21, 24, 22, 23, 23};
        static final int DEEPEST = 16;

        final Town town;
        final Stand stand;
        final int[] bodies = new int[TRACED];
        int traced;

        Asks(Town itsTown, Stand itsStand) {
            town = itsTown;
            stand = itsStand;
        }

        int answer(int s, int what) {
            traced = 0;
            return run(this, what == 0 ? sizeBody(s) : markBody(s), s, 0);
        }

        private int sizeBody(int s) {
            return SIZE_BODIES[town.kinds[s]];
        }

        private int markBody(int s) {
            return MARK_BODIES[town.kinds[s]];
        }

        private void leave(int body) {
            if (traced < TRACED) {
                bodies[traced] = body;
                traced++;
            }
        }

        private static int run(Asks a, int body, int s, int depth) {
            if (depth > DEEPEST) {
                return 0;
            }
            a.leave(body);
            int deeper = depth + 1;
            switch (body) {
                case 10: return a.town.lengths[s];
                case 11: return run(a, 10, s, deeper) + run(a, a.markBody(s), s, deeper);
                case 12: return 0 - run(a, 11, s, deeper);
                case 13: return run(a, 10, s, deeper) - 100;
                case 14: return 2 * run(a, 13, s, deeper);
                case 20: return s;
                case 21: return run(a, 20, s, deeper) + a.stand.price;
                case 22: return run(a, 21, s, deeper) - 1000;
                case 23: return run(a, 20, s, deeper) - run(a, a.sizeBody(s), s, deeper);
                case 24: return 2 * run(a, 21, s, deeper);
                default: return 0;
            }
        }
    }
}
