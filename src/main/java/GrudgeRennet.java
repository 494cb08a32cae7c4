import java.util.Arrays;

/** Milk that sets by a grudge; the promises that it keeps stand in ../shared/DOC.md. */
public final class GrudgeRennet {
    public static final int NONE = -1, UNKNOWN = -101, OUTSIDE = -102, STATE = -103, FULL = -104;

    private static final String KIND_LETTERS = "psbtm";
    private static final int SAINT = 1, BROODER = 2, TOUCHY = 3, MARTYR = 4, KINDS = 5;
    private static final int HEM = 1, SLIGHTS = 3, TOUCHY_HEM_WORTH = 12;
    private static final int[] WORTHS = {4, 6, 2};
    private static final int PLACES = 6, BOTTLES = 4;
    private static final int FEWEST_PEOPLE = 2, MOST_PEOPLE = 4, FEWEST_PAILS = 2, MOST_PAILS = 6;
    private static final int MOST_LETTERS = 24, MOST_CODE = 126, PERSON_LETTERS = 4;
    private static final int MOST_PRIDE = 9, MOST_GRUDGE = 99, MOST_NIGHTS = 99, MOST_DROPS = 4, MOST_SEEN = 6;
    private static final int MOST_ROW = 3, MOST_FEW_DONE = 30, MOST_WEEK_DONE = 20, MOST_WEEKS_DAYS = 60;
    private static final int ROW_FROM = 10, COUNTS = 15, PAIL_TELLS = 7, LAST_PLAIN_TELL = 8;

    private final Page page;
    private final Valley valley;
    private final Standing now;
    private final Standing kept;
    private final Outlook outlook;
    private boolean hasKept;
    private int valleysRead;
    private int fewDone;
    private int weekDone;

    public GrudgeRennet() {
        page = new Page();
        valley = new Valley();
        now = new Standing();
        kept = new Standing();
        outlook = new Outlook();
    }

    // ---- the valley

    public int letter(int code) {
        if (code < 1 || code > MOST_CODE) {
            return OUTSIDE;
        }
        if (page.size >= MOST_LETTERS) {
            return FULL;
        }
        page.add(code);
        return page.size;
    }

    public int blank() {
        return page.clear();
    }

    public int fault() {
        return page.firstFault();
    }

    public int valley() {
        if (!page.isValley()) {
            return STATE;
        }
        now.clear();
        valley.read(page, now);
        page.clear();
        hasKept = false;
        valleysRead++;
        return valley.pails;
    }

    public int person(int person, int what) {
        if (!valley.hasPerson(person)) {
            return UNKNOWN;
        }
        if (isRowPlace(what)) {
            return valley.growth(now, person * SLIGHTS + what - ROW_FROM);
        }
        switch (what) {
            case 0: return valley.kinds[person];
            case 1: return valley.prides[person];
            case 2: return now.places[person];
            case 3: return now.grudges[person];
            case 4: return now.slighted[person];
            case 5: return outlook.findSeat(valley, now, person);
            case 6:
                outlook.findSeat(valley, now, person);
                return outlook.howMany;
            case 7: return now.seen.prides(person, valley.kinds[person]);
            case 8: return Temper.bestTry(valley.kinds[person], now.seen.prides(person, valley.kinds[person]));
            default: return OUTSIDE;
        }
    }

    public int as(int person, int kind) {
        if (!valley.hasPerson(person)) {
            return UNKNOWN;
        }
        if (kind < 0 || kind >= KINDS) {
            return OUTSIDE;
        }
        return Temper.isOf(valley.kinds[person], kind) ? person : NONE;
    }

    public int pail(int pail, int what) {
        if (!valley.hasPail(pail)) {
            return UNKNOWN;
        }
        switch (what) {
            case 0: return valley.wants[pail];
            case 1: return now.forceAt(pail);
            case 2: return now.isSet(pail) ? 1 : 0;
            case 3: return valley.wouldSet(now, pail) ? 1 : 0;
            case 4: return bottlesFor(pail);
            case 5: return odds(pail, true);
            case 6: return odds(pail, false);
            default: return OUTSIDE;
        }
    }

    // ---- slights, nights, seats

    public int slight(int person, int how) {
        if (!valley.hasPerson(person)) {
            return UNKNOWN;
        }
        if (!isSlight(how)) {
            return OUTSIDE;
        }
        valley.offend(now, person * SLIGHTS + how);
        now.slighted[person]++;
        return now.grudges[person];
    }

    public int soothe(int person) {
        if (!valley.hasPerson(person)) {
            return UNKNOWN;
        }
        int was = now.grudges[person];
        now.grudges[person] = 0;
        return was;
    }

    public int sit(int person, int place) {
        if (!valley.hasPerson(person) || !isPlace(place)) {
            return UNKNOWN;
        }
        int was = now.places[person];
        now.places[person] = place;
        return was;
    }

    public int night() {
        if (!valley.isThere()) {
            return STATE;
        }
        if (now.nights >= MOST_NIGHTS) {
            return FULL;
        }
        valley.passNight(now);
        now.nights++;
        return now.nights;
    }

    // ---- milk

    public int curdle() {
        if (!valley.isThere()) {
            return STATE;
        }
        int setsNow = valley.allThatWouldSet(now) & ~now.setBits;
        int howMany = Integer.bitCount(setsNow);
        now.setBits |= setsNow;
        now.setTimes += howMany;
        now.dropCount = 0;
        return howMany;
    }

    public int fresh(int pail) {
        if (!valley.hasPail(pail)) {
            return UNKNOWN;
        }
        int was = now.isSet(pail) ? 1 : 0;
        now.setBits &= ~(1 << pail);
        return was;
    }

    public int force(int place) {
        if (!valley.isThere() || !isPlace(place)) {
            return UNKNOWN;
        }
        return now.forceAt(place);
    }

    // ---- drops

    public int keep(int bottle, int person) {
        if (!hasBottle(bottle) || !valley.hasPerson(person)) {
            return UNKNOWN;
        }
        if (now.bottles[bottle] > 0 || now.grudges[person] == 0) {
            return STATE;
        }
        now.bottles[bottle] = now.grudges[person];
        now.grudges[person] = 0;
        return now.bottles[bottle];
    }

    public int pour(int bottle, int place) {
        if (!hasBottle(bottle) || !isPlace(place)) {
            return UNKNOWN;
        }
        if (now.bottles[bottle] == 0) {
            return STATE;
        }
        if (now.dropCount >= MOST_DROPS) {
            return FULL;
        }
        int drop = now.bottles[bottle];
        now.addDrop(drop, place);
        now.bottles[bottle] = 0;
        return drop;
    }

    public int bottle(int bottle) {
        return hasBottle(bottle) ? now.bottles[bottle] : UNKNOWN;
    }

    // ---- what would be

    public int would() {
        return valley.isThere() ? valley.allThatWouldSet(now) : STATE;
    }

    public int few(int pails, int what) {
        if (pails == 0 || !valley.arePails(pails) || !isRowTell(what)) {
            return OUTSIDE;
        }
        if (fewDone >= MOST_FEW_DONE) {
            return STATE;
        }
        fewDone++;
        outlook.findFew(valley, now, pails);
        return outlook.tell(what, outlook.howMany);
    }

    public int week(int days, int what) {
        if (days < 1 || days > MOST_ROW || !isRowTell(what)) {
            return OUTSIDE;
        }
        if (!valley.isThere() || weekDone >= MOST_WEEK_DONE) {
            return STATE;
        }
        weekDone++;
        outlook.findWeek(valley, now, days);
        return outlook.tell(what, days);
    }

    public int who(int pails) {
        if (!valley.arePails(pails)) {
            return OUTSIDE;
        }
        return valley.isThere() ? outlook.slightsThatSetJust(valley, now, pails) : STATE;
    }

    // ---- what is seen

    public int see(int person, int how, int by) {
        if (!valley.hasPerson(person)) {
            return UNKNOWN;
        }
        if (!isSlight(how) || by < 0 || by > MOST_GRUDGE) {
            return OUTSIDE;
        }
        if (now.seen.size >= MOST_SEEN) {
            return FULL;
        }
        now.seen.add(person, how, by);
        return now.seen.size;
    }

    public int forget() {
        int was = now.seen.size;
        now.seen.size = 0;
        return was;
    }

    public int weeks(int days, int seed, int what) {
        if (days < 1 || days > MOST_WEEKS_DAYS || seed < 0 || what < 0 || what > 2) {
            return OUTSIDE;
        }
        if (!valley.isThere()) {
            return STATE;
        }
        outlook.runWeeks(valley, now, days, seed);
        if (what == 0) {
            return outlook.howMany;
        }
        return what == 1 ? outlook.trial.allGrudges() : outlook.seed;
    }

    // ---- what is told of all

    public int image() {
        if (!valley.isThere()) {
            return STATE;
        }
        kept.copyFrom(now);
        hasKept = true;
        return now.nights;
    }

    public int restore() {
        if (!hasKept) {
            return STATE;
        }
        now.copyFrom(kept);
        return now.nights;
    }

    public int count(int what) {
        switch (what) {
            case 0: return valley.people;
            case 1: return valley.pails;
            case 2: return now.allGrudges();
            case 3: return Integer.bitCount(now.setBits);
            case 4: return Integer.bitCount(valley.allThatWouldSet(now));
            case 5: return Integer.bitCount(now.fullBottles());
            case 6: return now.dropCount;
            case 7: return now.nights;
            case 8: return now.allSlights();
            case 9: return now.setTimes;
            case 10: return now.seen.size;
            case 11: return page.size;
            case 12: return valleysRead;
            case 13: return fewDone;
            case 14: return weekDone;
            default: return OUTSIDE;
        }
    }

    public long digest() {
        long h = 1123L;
        for (int i = 0; i < valley.people; i++) {
            for (int what = 0; what < ROW_FROM + SLIGHTS; what++) {
                if (what <= LAST_PLAIN_TELL || what >= ROW_FROM) {
                    h = 31L * h + person(i, what);
                }
            }
        }
        for (int i = 0; i < valley.pails; i++) {
            for (int what = 0; what < PAIL_TELLS; what++) {
                h = 31L * h + pail(i, what);
            }
        }
        if (valley.isThere()) {
            for (int place = 0; place < PLACES; place++) {
                h = 31L * h + force(place);
            }
            for (int i = 0; i < BOTTLES; i++) {
                h = 31L * h + bottle(i);
            }
            h = 31L * h + who(would());
        }
        for (int i = 0; i < page.size; i++) {
            h = 31L * h + page.codeAt(i);
        }
        for (int what = 0; what < COUNTS; what++) {
            h = 31L * h + count(what);
        }
        return h;
    }

    private static boolean isSlight(int how) {
        return how >= 0 && how < SLIGHTS;
    }

    private static boolean isPlace(int place) {
        return place >= 0 && place < PLACES;
    }

    private static boolean isRowPlace(int what) {
        return what >= ROW_FROM && what < ROW_FROM + MOST_ROW;
    }

    private static boolean isRowTell(int what) {
        return what == 0 || isRowPlace(what);
    }

    private boolean hasBottle(int bottle) {
        return valley.isThere() && bottle >= 0 && bottle < BOTTLES;
    }

    private int bottlesFor(int pail) {
        int lacking = valley.wants[pail] - now.forceAt(pail);
        return lacking <= 0 ? 0 : now.bottlesWorth(lacking);
    }

    private int odds(int pail, boolean above) {
        int hits = outlook.slightsThatSet(valley, now, pail);
        int all = valley.slightNumbers();
        int common = commonDivisor(hits, all);
        if (common == 0) {
            return 0;
        }
        return above ? hits / common : all / common;
    }

    private static int commonDivisor(int a, int b) {
        int larger = a;
        int smaller = b;
        for (int step = 0; step < 64 && smaller != 0; step++) {
            int rest = larger % smaller;
            larger = smaller;
            smaller = rest;
        }
        return larger;
    }

    /** What the kinds differ in. */
    private static final class Temper {
        static boolean isOf(int kind, int other) {
            return other == 0 || kind == other || kind == MARTYR && other == SAINT;
        }

        static int growthFromNone(int kind, int pride, int how) {
            if (!isSlight(how)) {
                return 0;
            }
            int worth = kind == TOUCHY && how == HEM ? TOUCHY_HEM_WORTH : WORTHS[how];
            int growth = worth * pride / 5;
            return isOf(kind, SAINT) ? growth / 2 : growth;
        }

        static int overnight(int kind, int grudge) {
            if (kind == BROODER) {
                return grudge;
            }
            return kind == MARTYR && grudge > 0 ? grudge / 2 + 1 : grudge / 2;
        }

        static int bestTry(int kind, int prides) {
            int best = NONE;
            int least = MOST_PRIDE + 1;
            for (int how = 0; how < SLIGHTS && prides != 0; how++) {
                int left = mostLeft(kind, prides, how);
                if (left < least) {
                    least = left;
                    best = how;
                }
            }
            return best;
        }

        private static int mostLeft(int kind, int prides, int how) {
            int most = 0;
            for (int pride = 1; pride <= MOST_PRIDE; pride++) {
                if (hasPride(prides, pride)) {
                    int growth = growthFromNone(kind, pride, how);
                    most = Math.max(most, likeOnes(kind, prides, how, growth));
                }
            }
            return most;
        }

        private static int likeOnes(int kind, int prides, int how, int growth) {
            int alike = 0;
            for (int pride = 1; pride <= MOST_PRIDE; pride++) {
                if (hasPride(prides, pride) && growthFromNone(kind, pride, how) == growth) {
                    alike++;
                }
            }
            return alike;
        }

        private static boolean hasPride(int prides, int pride) {
            return (prides >> (pride - 1) & 1) != 0;
        }
    }

    /** The letters that have come, and whether they are a valley's text. */
    private static final class Page {
        private final int[] codes = new int[MOST_LETTERS];
        private int size;

        void add(int code) {
            if (size < codes.length) {
                codes[size] = code;
                size++;
            }
        }

        int clear() {
            int had = size;
            size = 0;
            return had;
        }

        int codeAt(int i) {
            return i >= 0 && i < size ? codes[i] : 0;
        }

        int digitAt(int i) {
            return codeAt(i) - '0';
        }

        int firstFault() {
            boolean atPails = false;
            int mark = markPlace();
            for (int i = 0; i < size; i++) {
                if (!(atPails ? fitsPails(i, mark) : fitsPeople(i))) {
                    return i;
                }
                atPails = atPails || i == mark;
            }
            return size;
        }

        boolean isValley() {
            int mark = markPlace();
            return mark != NONE && size - mark - 1 >= FEWEST_PAILS && firstFault() == size;
        }

        int markPlace() {
            for (int i = 0; i < size; i++) {
                if (codes[i] == ';') {
                    return i;
                }
            }
            return NONE;
        }

        private boolean fitsPeople(int i) {
            switch (i % PERSON_LETTERS) {
                case 0: return KIND_LETTERS.indexOf((char) codeAt(i)) >= 0;
                case 1: return isDigit(i, 1, 9);
                case 2: return isDigit(i, 0, PLACES - 1);
                default: return fitsBehindPeople(codeAt(i), i / PERSON_LETTERS + 1);
            }
        }

        private boolean fitsBehindPeople(int code, int people) {
            return code == ',' && people < MOST_PEOPLE || code == ';' && people >= FEWEST_PEOPLE;
        }

        private boolean fitsPails(int i, int mark) {
            return i - mark <= MOST_PAILS && isDigit(i, 1, 9);
        }

        private boolean isDigit(int i, int least, int most) {
            int digit = digitAt(i);
            return digit >= least && digit <= most;
        }
    }

    /** What a valley's text says and nothing changes, and what becomes of a standing by it. */
    private static final class Valley {
        private final int[] kinds = new int[MOST_PEOPLE];
        private final int[] prides = new int[MOST_PEOPLE];
        private final int[] growths = new int[MOST_PEOPLE * SLIGHTS];
        private final int[] wants = new int[MOST_PAILS];
        private int people;
        private int pails;

        void read(Page page, Standing standing) {
            int mark = page.markPlace();
            people = Math.min(MOST_PEOPLE, (mark + 1) / PERSON_LETTERS);
            for (int i = 0; i < people; i++) {
                int at = i * PERSON_LETTERS;
                kinds[i] = KIND_LETTERS.indexOf((char) page.codeAt(at));
                prides[i] = page.digitAt(at + 1);
                standing.places[i] = page.digitAt(at + 2);
                for (int how = 0; how < SLIGHTS; how++) {
                    growths[i * SLIGHTS + how] = Temper.growthFromNone(kinds[i], prides[i], how);
                }
            }
            pails = Math.min(MOST_PAILS, page.size - mark - 1);
            for (int i = 0; i < pails; i++) {
                wants[i] = page.digitAt(mark + 1 + i);
            }
        }

        boolean isThere() {
            return people > 0;
        }

        boolean hasPerson(int person) {
            return person >= 0 && person < people;
        }

        boolean hasPail(int pail) {
            return pail >= 0 && pail < pails;
        }

        boolean arePails(int bits) {
            return bits >= 0 && bits < 1 << pails;
        }

        int slightNumbers() {
            return people * SLIGHTS;
        }

        boolean hasSlight(int number) {
            return number >= 0 && number < people * SLIGHTS;
        }

        int growth(Standing standing, int number) {
            if (!hasSlight(number)) {
                return 0;
            }
            return Math.min(growths[number], MOST_GRUDGE - standing.grudges[number / SLIGHTS]);
        }

        void offend(Standing standing, int number) {
            if (hasSlight(number)) {
                int person = number / SLIGHTS;
                standing.grudges[person] = Math.min(MOST_GRUDGE, standing.grudges[person] + growths[number]);
            }
        }

        void passNight(Standing standing) {
            for (int i = 0; i < people; i++) {
                standing.grudges[i] = Temper.overnight(kinds[i], standing.grudges[i]);
            }
        }

        boolean wouldSet(Standing standing, int pail) {
            return hasPail(pail) && standing.forceAt(pail) >= wants[pail];
        }

        int allThatWouldSet(Standing standing) {
            int bits = 0;
            for (int i = 0; i < pails; i++) {
                if (standing.forceAt(i) >= wants[i]) {
                    bits |= 1 << i;
                }
            }
            return bits;
        }
    }

    /** All that changes in a valley: just what an image keeps. */
    private static final class Standing {
        private final int[] grudges = new int[MOST_PEOPLE];
        private final int[] places = new int[MOST_PEOPLE];
        private final int[] slighted = new int[MOST_PEOPLE];
        private final int[] bottles = new int[BOTTLES];
        private final int[] drops = new int[MOST_DROPS];
        private final int[] dropPlaces = new int[MOST_DROPS];
        private final Seen seen = new Seen();
        private int dropCount;
        private int setBits;
        private int nights;
        private int setTimes;

        void clear() {
            Arrays.fill(grudges, 0);
            Arrays.fill(places, 0);
            Arrays.fill(slighted, 0);
            Arrays.fill(bottles, 0);
            seen.size = 0;
            dropCount = 0;
            setBits = 0;
            nights = 0;
            setTimes = 0;
        }

        void copyFrom(Standing other) {
            System.arraycopy(other.slighted, 0, slighted, 0, MOST_PEOPLE);
            System.arraycopy(other.bottles, 0, bottles, 0, BOTTLES);
            seen.copyFrom(other.seen);
            setBits = other.setBits;
            nights = other.nights;
            setTimes = other.setTimes;
            copyForcesFrom(other);
        }

        // A trial needs no more than this, and there are many trials.
        void copyForcesFrom(Standing other) {
            System.arraycopy(other.grudges, 0, grudges, 0, MOST_PEOPLE);
            System.arraycopy(other.places, 0, places, 0, MOST_PEOPLE);
            System.arraycopy(other.drops, 0, drops, 0, MOST_DROPS);
            System.arraycopy(other.dropPlaces, 0, dropPlaces, 0, MOST_DROPS);
            dropCount = other.dropCount;
        }

        void addDrop(int drop, int place) {
            if (dropCount < MOST_DROPS) {
                drops[dropCount] = drop;
                dropPlaces[dropCount] = place;
                dropCount++;
            }
        }

        boolean isSet(int pail) {
            return (setBits >> pail & 1) != 0;
        }

        // Whoever is not there has no grudge, and so adds nothing.
        int forceAt(int place) {
            int sum = 0;
            for (int i = 0; i < MOST_PEOPLE; i++) {
                if (grudges[i] > 0) {
                    sum += reach(grudges[i], places[i], place);
                }
            }
            for (int i = 0; i < dropCount; i++) {
                sum += reach(drops[i], dropPlaces[i], place);
            }
            return sum;
        }

        private static int reach(int strength, int from, int to) {
            int left = strength - 2 * (from < to ? to - from : from - to);
            return left > 0 ? left : 0;
        }

        int allGrudges() {
            return sumOf(grudges);
        }

        int allSlights() {
            return sumOf(slighted);
        }

        private static int sumOf(int[] row) {
            int sum = 0;
            for (int number : row) {
                sum += number;
            }
            return sum;
        }

        int fullBottles() {
            int bits = 0;
            for (int i = 0; i < BOTTLES; i++) {
                if (bottles[i] > 0) {
                    bits |= 1 << i;
                }
            }
            return bits;
        }

        /** The bottles that together hold as much as is lacking: fewest, then least in them, then least bits. */
        int bottlesWorth(int lacking) {
            int full = fullBottles();
            int best = NONE;
            int bestCost = 0;
            for (int bits = 1; bits <= full; bits++) {
                int held = heldIn(bits);
                // Four bottles hold far less than 1000, so that their number goes first.
                int cost = 1000 * Integer.bitCount(bits) + held;
                if ((bits & ~full) == 0 && held >= lacking && (best == NONE || cost < bestCost)) {
                    best = bits;
                    bestCost = cost;
                }
            }
            return best;
        }

        private int heldIn(int bits) {
            int held = 0;
            for (int i = 0; i < BOTTLES; i++) {
                if ((bits >> i & 1) != 0) {
                    held += bottles[i];
                }
            }
            return held;
        }
    }

    /** What is seen of people whose pride is not known. */
    private static final class Seen {
        private final int[] who = new int[MOST_SEEN];
        private final int[] how = new int[MOST_SEEN];
        private final int[] by = new int[MOST_SEEN];
        private int size;

        void add(int person, int slight, int growth) {
            if (size < MOST_SEEN) {
                who[size] = person;
                how[size] = slight;
                by[size] = growth;
                size++;
            }
        }

        void copyFrom(Seen other) {
            System.arraycopy(other.who, 0, who, 0, MOST_SEEN);
            System.arraycopy(other.how, 0, how, 0, MOST_SEEN);
            System.arraycopy(other.by, 0, by, 0, MOST_SEEN);
            size = other.size;
        }

        int prides(int person, int kind) {
            int bits = 0;
            for (int pride = 1; pride <= MOST_PRIDE; pride++) {
                if (allowsPride(person, kind, pride)) {
                    bits |= 1 << (pride - 1);
                }
            }
            return bits;
        }

        private boolean allowsPride(int person, int kind, int pride) {
            for (int i = 0; i < size; i++) {
                if (who[i] == person && Temper.growthFromNone(kind, pride, how[i]) != by[i]) {
                    return false;
                }
            }
            return true;
        }
    }

    /** What would be: tried on a copy, so that nothing changes. */
    private static final class Outlook {
        private final Standing trial = new Standing();
        private final int[] row = new int[MOST_ROW];
        private final int[] bestRow = new int[MOST_ROW];
        private final int[][] mornings = new int[MOST_ROW][MOST_PEOPLE];
        private int howMany;
        private int seed;

        int findSeat(Valley valley, Standing now, int person) {
            int best = 0;
            howMany = NONE;
            for (int place = 0; place < PLACES && valley.hasPerson(person); place++) {
                trial.copyForcesFrom(now);
                trial.places[person] = place;
                int sets = Integer.bitCount(valley.allThatWouldSet(trial));
                if (sets > howMany) {
                    howMany = sets;
                    best = place;
                }
            }
            return best;
        }

        private void trySlight(Valley valley, Standing now, int number) {
            trial.copyForcesFrom(now);
            valley.offend(trial, number);
        }

        int slightsThatSet(Valley valley, Standing now, int pail) {
            int hits = 0;
            for (int number = 0; number < valley.slightNumbers(); number++) {
                trySlight(valley, now, number);
                if (valley.wouldSet(trial, pail)) {
                    hits++;
                }
            }
            return hits;
        }

        int slightsThatSetJust(Valley valley, Standing now, int pails) {
            int bits = 0;
            for (int number = 0; number < valley.slightNumbers(); number++) {
                trySlight(valley, now, number);
                if (valley.allThatWouldSet(trial) == pails) {
                    bits |= 1 << number;
                }
            }
            return bits;
        }

        void findFew(Valley valley, Standing now, int pails) {
            trial.copyForcesFrom(now);
            howMany = NONE;
            for (int size = 0; size <= MOST_ROW && howMany == NONE; size++) {
                if (rowSets(valley, pails, size, 0, 0)) {
                    howMany = size;
                    System.arraycopy(row, 0, bestRow, 0, MOST_ROW);
                }
            }
        }

        // Rows come in the order of their numbers, so that the first found is the first of like ones.
        private boolean rowSets(Valley valley, int pails, int size, int depth, int least) {
            if (depth >= size || depth >= MOST_ROW) {
                return (valley.allThatWouldSet(trial) & pails) == pails;
            }
            boolean found = false;
            for (int number = least; number < valley.slightNumbers() && !found; number++) {
                int person = number / SLIGHTS;
                int before = trial.grudges[person];
                valley.offend(trial, number);
                row[depth] = number;
                found = rowSets(valley, pails, size, depth + 1, number);
                trial.grudges[person] = before;
            }
            return found;
        }

        void findWeek(Valley valley, Standing now, int days) {
            trial.copyForcesFrom(now);
            howMany = NONE;
            tryDay(valley, now.dropCount, days, 0, 0);
        }

        // A row that can't set more than the best is left: of like ones the first stays.
        private void tryDay(Valley valley, int dropCount, int days, int day, int sets) {
            if (sets + (days - day) * valley.pails <= howMany) {
                return;
            }
            if (day >= days || day >= MOST_ROW) {
                howMany = sets;
                System.arraycopy(row, 0, bestRow, 0, MOST_ROW);
                return;
            }
            System.arraycopy(trial.grudges, 0, mornings[day], 0, MOST_PEOPLE);
            for (int number = NONE; number < valley.slightNumbers(); number++) {
                System.arraycopy(mornings[day], 0, trial.grudges, 0, MOST_PEOPLE);
                trial.dropCount = day == 0 ? dropCount : 0;
                valley.offend(trial, number);
                row[day] = number;
                int setsToday = Integer.bitCount(valley.allThatWouldSet(trial));
                valley.passNight(trial);
                tryDay(valley, dropCount, days, day + 1, sets + setsToday);
            }
        }

        int tell(int what, int size) {
            if (what == 0) {
                return howMany;
            }
            int at = what - ROW_FROM;
            return at >= 0 && at < size && at < MOST_ROW ? bestRow[at] : NONE;
        }

        void runWeeks(Valley valley, Standing now, int days, int firstSeed) {
            trial.copyForcesFrom(now);
            trial.dropCount = 0;
            howMany = 0;
            seed = firstSeed;
            for (int day = 0; day < days; day++) {
                int person = draw(valley.people);
                int how = draw(SLIGHTS + 1);
                if (how < SLIGHTS) {
                    valley.offend(trial, person * SLIGHTS + how);
                }
                howMany += Integer.bitCount(valley.allThatWouldSet(trial));
                valley.passNight(trial);
            }
        }

        private int draw(int among) {
            seed = (int) ((1103515245L * seed + 12345L) % 2147483648L);
            return among > 0 ? seed / 65536 % among : 0;
        }
    }
}
