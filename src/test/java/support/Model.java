import java.util.ArrayList;
import java.util.Arrays;
import java.util.List;
import java.util.regex.Matcher;
import java.util.regex.Pattern;

/**
 * The document read a second time, as plainly as it can be: every search goes through all that there is,
 * every trial is a deep copy. It shares no code with the class.
 */
final class Model {
    private static final int NONE = -1, UNKNOWN = -101, OUTSIDE = -102, STATE = -103, FULL = -104;
    private static final Pattern VALLEY = Pattern.compile("[psbtm][1-9][0-5](,[psbtm][1-9][0-5]){1,3};[1-9]{2,6}");

    private static final class One {
        char kind;
        int pride, place, grudge, slighted;

        One copy() {
            One c = new One();
            c.kind = kind;
            c.pride = pride;
            c.place = place;
            c.grudge = grudge;
            c.slighted = slighted;
            return c;
        }
    }

    private static final class World {
        List<One> people = new ArrayList<>();
        List<Integer> wants = new ArrayList<>();
        List<Boolean> set = new ArrayList<>();
        int[] bottles = new int[4];
        List<int[]> drops = new ArrayList<>();
        List<int[]> seen = new ArrayList<>();
        int nights, slights, setTimes;

        World copy() {
            World c = new World();
            for (One o : people) {
                c.people.add(o.copy());
            }
            c.wants.addAll(wants);
            c.set.addAll(set);
            c.bottles = bottles.clone();
            c.drops.addAll(drops);
            c.seen.addAll(seen);
            c.nights = nights;
            c.slights = slights;
            c.setTimes = setTimes;
            return c;
        }

        int force(int place) {
            int f = 0;
            for (One o : people) {
                f += Math.max(0, o.grudge - 2 * Math.abs(o.place - place));
            }
            for (int[] d : drops) {
                f += Math.max(0, d[0] - 2 * Math.abs(d[1] - place));
            }
            return f;
        }

        boolean wouldSet(int pail) {
            return force(pail) >= wants.get(pail);
        }

        int would() {
            int bits = 0;
            for (int i = 0; i < wants.size(); i++) {
                bits += wouldSet(i) ? 1 << i : 0;
            }
            return bits;
        }

        int howMany() {
            return Integer.bitCount(would());
        }

        World slighted(int number) {
            World c = copy();
            One o = c.people.get(number / 3);
            o.grudge = Math.min(99, o.grudge + growth(o.kind, o.pride, number % 3));
            return c;
        }

        void pass() {
            for (One o : people) {
                if (o.kind == 'm') {
                    o.grudge = o.grudge == 0 ? 0 : 1 + o.grudge / 2;
                } else if (o.kind != 'b') {
                    o.grudge = o.grudge / 2;
                }
            }
        }

        int grudges() {
            int sum = 0;
            for (One o : people) {
                sum += o.grudge;
            }
            return sum;
        }
    }

    private static int growth(char kind, int pride, int how) {
        int worth = new int[] {4, kind == 't' ? 12 : 6, 2}[how];
        int by = (int) Math.floor(worth * pride / 5.0);
        return kind == 's' || kind == 'm' ? (int) Math.floor(by / 2.0) : by;
    }

    private String page = "";
    private World world = new World();
    private World image;
    private int valleys, fewDone, weekDone;

    private boolean there() {
        return !world.people.isEmpty();
    }

    private boolean isPerson(int i) {
        return i >= 0 && i < world.people.size();
    }

    private boolean isPail(int i) {
        return i >= 0 && i < world.wants.size();
    }

    int letter(int code) {
        if (code < 1 || code > 126) {
            return OUTSIDE;
        }
        if (page.length() + 1 > 24) {
            return FULL;
        }
        page += (char) code;
        return page.length();
    }

    int blank() {
        int had = page.length();
        page = "";
        return had;
    }

    int fault() {
        for (int n = 1; n <= page.length(); n++) {
            if (!mayBegin(page.substring(0, n))) {
                return n - 1;
            }
        }
        return page.length();
    }

    /** Whether some valley begins so: whether one of a few ends makes it one. */
    private static boolean mayBegin(String text) {
        String whole = "p11,p11;11";
        for (int from = 0; from <= whole.length(); from++) {
            if (VALLEY.matcher(text + whole.substring(from)).matches()) {
                return true;
            }
        }
        return false;
    }

    int valley() {
        Matcher m = VALLEY.matcher(page);
        if (!m.matches()) {
            return STATE;
        }
        World w = new World();
        String[] halves = page.split(";");
        for (String text : halves[0].split(",")) {
            One o = new One();
            o.kind = text.charAt(0);
            o.pride = Integer.parseInt(text.substring(1, 2));
            o.place = Integer.parseInt(text.substring(2));
            w.people.add(o);
        }
        for (String digit : halves[1].split("")) {
            w.wants.add(Integer.parseInt(digit));
            w.set.add(false);
        }
        world = w;
        image = null;
        page = "";
        valleys++;
        return w.wants.size();
    }

    int person(int person, int what) {
        if (!isPerson(person)) {
            return UNKNOWN;
        }
        One o = world.people.get(person);
        if (what >= 10 && what <= 12) {
            return world.slighted(3 * person + what - 10).people.get(person).grudge - o.grudge;
        }
        return switch (what) {
            case 0 -> "psbtm".indexOf(o.kind);
            case 1 -> o.pride;
            case 2 -> o.place;
            case 3 -> o.grudge;
            case 4 -> o.slighted;
            case 5 -> seat(person)[0];
            case 6 -> seat(person)[1];
            case 7 -> bits(prides(person));
            case 8 -> best(o.kind, prides(person));
            default -> OUTSIDE;
        };
    }

    private int[] seat(int person) {
        int[] best = null;
        for (int place = 5; place >= 0; place--) {
            World c = world.copy();
            c.people.get(person).place = place;
            if (best == null || c.howMany() >= best[1]) {
                best = new int[] {place, c.howMany()};
            }
        }
        return best;
    }

    private List<Integer> prides(int person) {
        List<Integer> can = new ArrayList<>(List.of(1, 2, 3, 4, 5, 6, 7, 8, 9));
        char kind = world.people.get(person).kind;
        for (int[] s : world.seen) {
            can.removeIf(p -> s[0] == person && growth(kind, p, s[1]) != s[2]);
        }
        return can;
    }

    private static int bits(List<Integer> prides) {
        return prides.stream().mapToInt(p -> 1 << (p - 1)).sum();
    }

    private static int best(char kind, List<Integer> prides) {
        if (prides.isEmpty()) {
            return NONE;
        }
        int[] worst = new int[3];
        for (int how = 0; how < 3; how++) {
            for (int by = 0; by <= 99; by++) {
                int h = how;
                int g = by;
                worst[how] = Math.max(worst[how], (int) prides.stream().filter(p -> growth(kind, p, h) == g).count());
            }
        }
        int least = Math.min(worst[0], Math.min(worst[1], worst[2]));
        return worst[0] == least ? 0 : worst[1] == least ? 1 : 2;
    }

    int as(int person, int kind) {
        if (!isPerson(person)) {
            return UNKNOWN;
        }
        if (kind < 0 || kind > 4) {
            return OUTSIDE;
        }
        String such = new String[] {"psbtm", "sm", "b", "t", "m"}[kind];
        return such.indexOf(world.people.get(person).kind) >= 0 ? person : NONE;
    }

    int pail(int pail, int what) {
        if (!isPail(pail)) {
            return UNKNOWN;
        }
        return switch (what) {
            case 0 -> world.wants.get(pail);
            case 1 -> world.force(pail);
            case 2 -> world.set.get(pail) ? 1 : 0;
            case 3 -> world.wouldSet(pail) ? 1 : 0;
            case 4 -> pourFor(pail);
            case 5 -> odds(pail)[0];
            case 6 -> odds(pail)[1];
            default -> OUTSIDE;
        };
    }

    private int pourFor(int pail) {
        int[] best = null;
        for (int bits = 0; bits < 16; bits++) {
            World c = world.copy();
            int sum = 0;
            boolean empty = false;
            for (int i = 0; i < 4; i++) {
                if ((bits & 1 << i) != 0) {
                    empty |= c.bottles[i] == 0;
                    sum += c.bottles[i];
                    c.drops.add(new int[] {c.bottles[i], pail});
                }
            }
            int[] row = {Integer.bitCount(bits), sum, bits};
            if (!empty && c.wouldSet(pail) && (best == null || Arrays.compare(row, best) < 0)) {
                best = row;
            }
        }
        return best == null ? NONE : best[2];
    }

    private int[] odds(int pail) {
        int all = 3 * world.people.size();
        int hits = 0;
        for (int n = 0; n < all; n++) {
            hits += world.slighted(n).wouldSet(pail) ? 1 : 0;
        }
        for (int d = 12; d > 1; d--) {
            if (hits % d == 0 && all % d == 0) {
                return new int[] {hits / d, all / d};
            }
        }
        return new int[] {hits, all};
    }

    int slight(int person, int how) {
        if (!isPerson(person)) {
            return UNKNOWN;
        }
        if (how < 0 || how > 2) {
            return OUTSIDE;
        }
        world = world.slighted(3 * person + how);
        world.slights++;
        world.people.get(person).slighted++;
        return world.people.get(person).grudge;
    }

    int soothe(int person) {
        if (!isPerson(person)) {
            return UNKNOWN;
        }
        int was = world.people.get(person).grudge;
        world.people.get(person).grudge = 0;
        return was;
    }

    int sit(int person, int place) {
        if (!isPerson(person) || place < 0 || place > 5) {
            return UNKNOWN;
        }
        int was = world.people.get(person).place;
        world.people.get(person).place = place;
        return was;
    }

    int night() {
        if (!there()) {
            return STATE;
        }
        if (world.nights == 99) {
            return FULL;
        }
        world.pass();
        return ++world.nights;
    }

    int curdle() {
        if (!there()) {
            return STATE;
        }
        int sets = 0;
        for (int i = 0; i < world.wants.size(); i++) {
            if (!world.set.get(i) && world.wouldSet(i)) {
                world.set.set(i, true);
                sets++;
            }
        }
        world.drops.clear();
        world.setTimes += sets;
        return sets;
    }

    int fresh(int pail) {
        if (!isPail(pail)) {
            return UNKNOWN;
        }
        return world.set.set(pail, false) ? 1 : 0;
    }

    int force(int place) {
        return !there() || place < 0 || place > 5 ? UNKNOWN : world.force(place);
    }

    private boolean isBottle(int bottle) {
        return there() && bottle >= 0 && bottle <= 3;
    }

    int keep(int bottle, int person) {
        if (!isBottle(bottle) || !isPerson(person)) {
            return UNKNOWN;
        }
        One o = world.people.get(person);
        if (world.bottles[bottle] != 0 || o.grudge == 0) {
            return STATE;
        }
        world.bottles[bottle] = o.grudge;
        o.grudge = 0;
        return world.bottles[bottle];
    }

    int pour(int bottle, int place) {
        if (!isBottle(bottle) || place < 0 || place > 5) {
            return UNKNOWN;
        }
        if (world.bottles[bottle] == 0) {
            return STATE;
        }
        if (world.drops.size() == 4) {
            return FULL;
        }
        int held = world.bottles[bottle];
        world.drops.add(new int[] {held, place});
        world.bottles[bottle] = 0;
        return held;
    }

    int bottle(int bottle) {
        return isBottle(bottle) ? world.bottles[bottle] : UNKNOWN;
    }

    int would() {
        return there() ? world.would() : STATE;
    }

    private boolean arePails(int pails) {
        for (int i = 0; i < 32; i++) {
            if ((pails >>> i & 1) != 0 && !isPail(i)) {
                return false;
            }
        }
        return true;
    }

    private static boolean isRowTell(int what) {
        return what == 0 || what >= 10 && what <= 12;
    }

    int few(int pails, int what) {
        if (pails == 0 || !arePails(pails) || !isRowTell(what)) {
            return OUTSIDE;
        }
        if (fewDone >= 30) {
            return STATE;
        }
        fewDone++;
        List<Integer> best = null;
        for (List<Integer> row : rows(0, 3 * world.people.size(), 3)) {
            World w = world;
            for (int n : row) {
                w = w.slighted(n);
            }
            boolean sorted = row.stream().sorted().toList().equals(row);
            if (sorted && (w.would() & pails) == pails && (best == null || row.size() < best.size()
                    || row.size() == best.size() && before(row, best))) {
                best = row;
            }
        }
        if (what == 0) {
            return best == null ? NONE : best.size();
        }
        return best == null || best.size() <= what - 10 ? NONE : best.get(what - 10);
    }

    /** All rows of up to so many numbers. */
    private static List<List<Integer>> rows(int from, int to, int most) {
        List<List<Integer>> all = new ArrayList<>();
        all.add(List.of());
        for (int done = 0; done < all.size(); done++) {
            for (int n = to - 1; n >= from && all.get(done).size() < most; n--) {
                List<Integer> row = new ArrayList<>(all.get(done));
                row.add(n);
                all.add(row);
            }
        }
        return all;
    }

    private static boolean before(List<Integer> a, List<Integer> b) {
        for (int i = 0; i < a.size(); i++) {
            if (!a.get(i).equals(b.get(i))) {
                return a.get(i) < b.get(i);
            }
        }
        return false;
    }

    int week(int days, int what) {
        if (days < 1 || days > 3 || !isRowTell(what)) {
            return OUTSIDE;
        }
        if (!there() || weekDone >= 20) {
            return STATE;
        }
        weekDone++;
        List<Integer> best = null;
        int most = 0;
        for (List<Integer> row : rows(-1, 3 * world.people.size(), days)) {
            if (row.size() == days) {
                int sets = setsBy(row);
                if (best == null || sets > most || sets == most && before(row, best)) {
                    best = row;
                    most = sets;
                }
            }
        }
        return what == 0 ? most : what - 10 < days ? best.get(what - 10) : NONE;
    }

    private int setsBy(List<Integer> row) {
        World w = world.copy();
        int sets = 0;
        for (int n : row) {
            w = n < 0 ? w : w.slighted(n);
            sets += w.howMany();
            w.drops.clear();
            w.pass();
        }
        return sets;
    }

    int who(int pails) {
        if (!arePails(pails)) {
            return OUTSIDE;
        }
        if (!there()) {
            return STATE;
        }
        int bits = 0;
        for (int n = 0; n < 3 * world.people.size(); n++) {
            bits += world.slighted(n).would() == pails ? 1 << n : 0;
        }
        return bits;
    }

    int see(int person, int how, int by) {
        if (!isPerson(person)) {
            return UNKNOWN;
        }
        if (how < 0 || how > 2 || by < 0 || by > 99) {
            return OUTSIDE;
        }
        if (world.seen.size() == 6) {
            return FULL;
        }
        world.seen.add(new int[] {person, how, by});
        return world.seen.size();
    }

    int forget() {
        int was = world.seen.size();
        world.seen.clear();
        return was;
    }

    int weeks(int days, int seed, int what) {
        if (days < 1 || days > 60 || seed < 0 || what < 0 || what > 2) {
            return OUTSIDE;
        }
        if (!there()) {
            return STATE;
        }
        World w = world.copy();
        w.drops.clear();
        long s = seed;
        int sets = 0;
        for (int day = 0; day < days; day++) {
            s = next(s);
            int one = (int) (s / 65536 % w.people.size());
            s = next(s);
            int how = (int) (s / 65536 % 4);
            w = how == 3 ? w : w.slighted(3 * one + how);
            sets += w.howMany();
            w.pass();
        }
        return what == 0 ? sets : what == 1 ? w.grudges() : (int) s;
    }

    private static long next(long seed) {
        return (1103515245L * seed + 12345) & 0x7fffffffL;
    }

    int image() {
        if (!there()) {
            return STATE;
        }
        image = world.copy();
        return world.nights;
    }

    int restore() {
        if (image == null) {
            return STATE;
        }
        world = image.copy();
        return world.nights;
    }

    int count(int what) {
        return switch (what) {
            case 0 -> world.people.size();
            case 1 -> world.wants.size();
            case 2 -> world.grudges();
            case 3 -> (int) world.set.stream().filter(s -> s).count();
            case 4 -> world.howMany();
            case 5 -> (int) Arrays.stream(world.bottles).filter(b -> b != 0).count();
            case 6 -> world.drops.size();
            case 7 -> world.nights;
            case 8 -> world.slights;
            case 9 -> world.setTimes;
            case 10 -> world.seen.size();
            case 11 -> page.length();
            case 12 -> valleys;
            case 13 -> fewDone;
            case 14 -> weekDone;
            default -> OUTSIDE;
        };
    }

    long digest() {
        List<Integer> all = new ArrayList<>();
        for (int i = 0; i < count(0); i++) {
            for (int what : new int[] {0, 1, 2, 3, 4, 5, 6, 7, 8, 10, 11, 12}) {
                all.add(person(i, what));
            }
        }
        for (int i = 0; i < count(1); i++) {
            for (int what : new int[] {0, 1, 2, 3, 4, 5, 6}) {
                all.add(pail(i, what));
            }
        }
        if (there()) {
            for (int place = 0; place <= 5; place++) {
                all.add(force(place));
            }
            for (int b : world.bottles) {
                all.add(b);
            }
            all.add(who(would()));
        }
        for (char c : page.toCharArray()) {
            all.add((int) c);
        }
        for (int what = 0; what <= 14; what++) {
            all.add(count(what));
        }
        long h = 1123;
        for (int number : all) {
            h = 31 * h + number;
        }
        return h;
    }
}
