/** A state that an object can be in, by the run of calls that leads there, and all that the object tells in it. */
final class Stage {
    static final Stage NEW = new Stage("a new object", 0, 0, "");
    static final Stage PAGE = new Stage("letters without a valley", 0, 0, "write p50,b53;2x");
    static final Stage FULL_PAGE = new Stage("a full page without a valley", 0, 0, "24 letter 112");
    static final Stage PLAIN = new Stage("a valley just read", 2, 2, "write p50,b53;29; valley");
    static final Stage BUSY = new Stage("a valley in which much was", 3, 4,
        "write p50,b53,s91;2929; valley; slight 0 1; slight 1 1; curdle; fresh 2; slight 0 0; keep 2 0; slight 0 1; "
        + "keep 1 0; pour 1 2; slight 2 1; slight 1 0; night; see 0 0 4; see 1 1 3; image; slight 0 1; sit 1 5; night; "
        + "keep 0 1; pour 2 4; slight 0 1; slight 1 2; see 2 1 5; few 1 0; 2 week 1 0; write m1;");
    static final Stage ALL_FULL = new Stage("a valley in which all is full", 4, 6,
        "write t90,b91,p95,m94;987654; valley; 6 see 0 1 21; slight 0 1; keep 0 0; slight 0 1; keep 1 0; slight 0 1; "
        + "keep 2 0; slight 0 1; keep 3 0; pour 0 0; pour 1 2; pour 2 4; pour 3 5; slight 0 0; keep 0 0; slight 0 0; "
        + "keep 1 0; slight 0 0; keep 2 0; slight 0 0; keep 3 0; 99 night; 10 slight 1 1; 3 slight 2 1; slight 3 0; "
        + "image; 30 few 1 0; 20 week 1 0; 24 letter 112");
    static final Stage FOUR_POURED = new Stage("four drops and a bottle", 2, 2,
        "write p50,b53;29; valley; slight 0 1; keep 0 0; pour 0 1; slight 0 1; keep 0 0; pour 0 2; slight 0 1; keep 0 0; "
        + "pour 0 3; slight 0 1; keep 0 0; pour 0 4; slight 0 1; keep 1 0");
    static final Stage ANOTHER = new Stage("another valley than that of the image", 2, 3,
        "write p50,b53;29; valley; slight 0 1; image; write p50,b53;299; valley; slight 1 1; night");
    static final Stage[] WITHOUT_VALLEY = {NEW, PAGE, FULL_PAGE};
    static final Stage[] WITH_VALLEY = {PLAIN, BUSY, ALL_FULL};
    static final Stage[] ALL = {NEW, PAGE, FULL_PAGE, PLAIN, BUSY, ALL_FULL};

    final String name;
    final int people;
    final int pails;
    private final String steps;
    private String tale;

    private Stage(String name, int people, int pails, String steps) {
        this.name = name;
        this.people = people;
        this.pails = pails;
        this.steps = steps;
    }

    GrudgeRennet made() {
        GrudgeRennet x = new GrudgeRennet();
        Calls.run(x, steps);
        return x;
    }

    /** What an object tells that has done nothing but these steps. */
    String tale() {
        if (tale == null) {
            tale = taleOf(made());
        }
        return tale;
    }

    /** All that can be asked, then what the image brings back: so nothing that a call changes stays hidden. */
    static String taleOf(GrudgeRennet x) {
        StringBuilder told = new StringBuilder();
        tell(told, x, "digest");
        tell(told, x, "would");
        tell(told, x, "fault");
        for (int what = 0; what <= 14; what++) {
            tell(told, x, "count", what);
        }
        for (int i = 0; i < x.count(0); i++) {
            for (int what = 0; what <= 12; what++) {
                tell(told, x, "person", i, what);
            }
        }
        for (int i = 0; i < x.count(1); i++) {
            for (int what = 0; what <= 6; what++) {
                tell(told, x, "pail", i, what);
            }
        }
        tellDrops(told, x);
        tell(told, x, "restore");
        tell(told, x, "digest");
        tellDrops(told, x);
        tell(told, x, "forget");
        tell(told, x, "blank");
        return told.toString();
    }

    private static void tellDrops(StringBuilder told, GrudgeRennet x) {
        for (int place = 0; place <= 5; place++) {
            tell(told, x, "force", place);
        }
        for (int bottle = 0; bottle <= 3; bottle++) {
            tell(told, x, "bottle", bottle);
        }
    }

    private static void tell(StringBuilder told, GrudgeRennet x, String call, int... with) {
        told.append(call);
        for (int number : with) {
            told.append(' ').append(number);
        }
        told.append(": ").append(Calls.make(x, call, with)).append('\n');
    }
}
