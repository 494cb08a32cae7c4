/** Each refused call: what is answered, which refusal goes ahead of which, and that nothing has changed by it. */
public final class RefusalTest {
    private static final int UNKNOWN = -101, OUTSIDE = -102, STATE = -103, FULL = -104;
    private static final int MIN = Integer.MIN_VALUE, MAX = Integer.MAX_VALUE;
    private static final int[] NO_SLIGHTS = {-1, 3, MIN, MAX};
    private static final int[] NO_PLACES = {-1, 6, MIN, MAX};
    private static final int[] NO_BOTTLES = {-1, 4, MIN, MAX};
    private static final int[] NO_ROW_TELLS = {-1, 1, 9, 13, MIN, MAX};
    private static final int[] NO_WEEK_DAYS = {0, -1, 4, MIN, MAX};
    private static final Sentences due = new Sentences();

    public static void main(String[] args) {
        letter();
        valley();
        person();
        as();
        pail();
        slight();
        soothe();
        sit();
        night();
        curdle();
        fresh();
        force();
        keep();
        keepState();
        pour();
        pourState();
        bottle();
        would();
        few();
        week();
        who();
        see();
        weeks();
        image();
        restore();
        count();
        // These five are never refused: a new object, blank, fault, forget, digest.
        due.end("RefusalTest", 1, 3, 4, 24, 29);
    }

    private static void refused(int answer, Stage stage, String call, int... with) {
        GrudgeRennet x = stage.made();
        StringBuilder told = new StringBuilder(call).append(' ');
        for (int number : with) {
            told.append(number).append(' ');
        }
        told.append("in ").append(stage.name);
        due.is(told.toString(), Calls.make(x, call, with), answer);
        String then = Stage.taleOf(x);
        due.is(told + " changes nothing, but:" + differing(stage.tale(), then), then.equals(stage.tale()) ? 0 : 1, 0);
    }

    private static String differing(String was, String is) {
        String[] before = was.split("\n");
        String[] after = is.split("\n");
        StringBuilder told = new StringBuilder();
        for (int i = 0; i < before.length && i < after.length; i++) {
            if (!before[i].equals(after[i])) {
                told.append(" [").append(before[i]).append(" became ").append(after[i]).append(']');
            }
        }
        return told.toString();
    }

    /** The numbers next to those of the ones there are, and far ones. */
    private static int[] beyond(int howMany) {
        return new int[] {-1, howMany, howMany + 1, 32, MIN, MAX};
    }

    private static void letter() {
        due.says(2, "OUTSIDE: code (1 to 126)");
        int[] noCodes = {0, -1, 127, 128, 256 + 'p', MIN, MAX};
        for (Stage stage : Stage.ALL) {
            for (int code : noCodes) {
                refused(OUTSIDE, stage, "letter", code);
            }
        }
        due.says(2, "FULL: above 24");
        int[] codes = {1, 'p', 126};
        for (int code : codes) {
            refused(FULL, Stage.FULL_PAGE, "letter", code);
            refused(FULL, Stage.ALL_FULL, "letter", code);
        }
    }

    private static void valley() {
        due.says(5, "STATE: it is none.");
        for (Stage stage : Stage.ALL) {
            refused(STATE, stage, "valley");
        }
    }

    private static void person() {
        due.says(6, "(99 in all, at most). UNKNOWN; OUTSIDE.");
        int[] noTells = {-1, 9, 13, MIN, MAX};
        for (Stage stage : Stage.ALL) {
            for (int person : beyond(stage.people)) {
                refused(UNKNOWN, stage, "person", person, 0);
                refused(UNKNOWN, stage, "person", person, 12);
                refused(UNKNOWN, stage, "person", person, 9);
            }
        }
        for (Stage stage : Stage.WITH_VALLEY) {
            for (int what : noTells) {
                refused(OUTSIDE, stage, "person", 0, what);
                refused(OUTSIDE, stage, "person", stage.people - 1, what);
            }
        }
    }

    private static void as() {
        due.says(7, "NONE: he is none such (the cast fails). UNKNOWN; OUTSIDE.");
        int[] noKinds = {-1, 5, MIN, MAX};
        for (Stage stage : Stage.ALL) {
            for (int person : beyond(stage.people)) {
                refused(UNKNOWN, stage, "as", person, 0);
                refused(UNKNOWN, stage, "as", person, 5);
            }
        }
        for (Stage stage : Stage.WITH_VALLEY) {
            for (int kind : noKinds) {
                refused(OUTSIDE, stage, "as", 0, kind);
                refused(OUTSIDE, stage, "as", stage.people - 1, kind);
            }
        }
    }

    private static void pail() {
        due.says(8, "6 of how many, in lowest terms. UNKNOWN; OUTSIDE.");
        int[] noTells = {-1, 7, MIN, MAX};
        for (Stage stage : Stage.ALL) {
            for (int pail : beyond(stage.pails)) {
                refused(UNKNOWN, stage, "pail", pail, 0);
                refused(UNKNOWN, stage, "pail", pail, 6);
                refused(UNKNOWN, stage, "pail", pail, 7);
            }
        }
        for (Stage stage : Stage.WITH_VALLEY) {
            for (int what : noTells) {
                refused(OUTSIDE, stage, "pail", 0, what);
                refused(OUTSIDE, stage, "pail", stage.pails - 1, what);
            }
        }
    }

    private static void slight() {
        due.says(9, "UNKNOWN: person;");
        for (Stage stage : Stage.ALL) {
            for (int person : beyond(stage.people)) {
                refused(UNKNOWN, stage, "slight", person, 0);
                refused(UNKNOWN, stage, "slight", person, 2);
                refused(UNKNOWN, stage, "slight", person, 3);
            }
        }
        due.says(9, "OUTSIDE: how (0 to 2)");
        for (Stage stage : Stage.WITH_VALLEY) {
            for (int how : NO_SLIGHTS) {
                refused(OUTSIDE, stage, "slight", 0, how);
                refused(OUTSIDE, stage, "slight", stage.people - 1, how);
            }
        }
    }

    private static void soothe() {
        due.says(10, "how great the GRUDGE was (it is 0 then). UNKNOWN.");
        for (Stage stage : Stage.ALL) {
            for (int person : beyond(stage.people)) {
                refused(UNKNOWN, stage, "soothe", person);
            }
        }
    }

    private static void sit() {
        due.says(11, "UNKNOWN: person, place (0 to 5).");
        for (Stage stage : Stage.ALL) {
            for (int person : beyond(stage.people)) {
                refused(UNKNOWN, stage, "sit", person, 0);
                refused(UNKNOWN, stage, "sit", person, 5);
                refused(UNKNOWN, stage, "sit", person, 6);
            }
        }
        for (Stage stage : Stage.WITH_VALLEY) {
            for (int place : NO_PLACES) {
                refused(UNKNOWN, stage, "sit", 0, place);
                refused(UNKNOWN, stage, "sit", stage.people - 1, place);
            }
        }
    }

    private static void night() {
        due.says(12, "STATE: no VALLEY;");
        for (Stage stage : Stage.WITHOUT_VALLEY) {
            refused(STATE, stage, "night");
        }
        due.says(12, "FULL: 99 were.");
        refused(FULL, Stage.ALL_FULL, "night");
    }

    private static void curdle() {
        due.says(13, "in how many PAILS milk SETS. STATE: no VALLEY.");
        for (Stage stage : Stage.WITHOUT_VALLEY) {
            refused(STATE, stage, "curdle");
        }
    }

    private static void fresh() {
        due.says(14, "whether it was SET (1, 0). UNKNOWN.");
        for (Stage stage : Stage.ALL) {
            for (int pail : beyond(stage.pails)) {
                refused(UNKNOWN, stage, "fresh", pail);
            }
        }
    }

    private static void force() {
        due.says(15, "UNKNOWN: place (0 to 5;");
        for (Stage stage : Stage.ALL) {
            for (int place : NO_PLACES) {
                refused(UNKNOWN, stage, "force", place);
            }
        }
        due.says(15, "also without a VALLEY).");
        for (Stage stage : Stage.WITHOUT_VALLEY) {
            for (int place = 0; place <= 5; place++) {
                refused(UNKNOWN, stage, "force", place);
            }
        }
    }

    private static void keep() {
        due.says(16, "UNKNOWN: bottle (0 to 3;");
        for (Stage stage : Stage.ALL) {
            for (int bottle : NO_BOTTLES) {
                refused(UNKNOWN, stage, "keep", bottle, 0);
                refused(UNKNOWN, stage, "keep", bottle, stage.people);
            }
        }
        due.says(16, "also without a VALLEY), person;");
        for (Stage stage : Stage.WITHOUT_VALLEY) {
            refused(UNKNOWN, stage, "keep", 0, 0);
            refused(UNKNOWN, stage, "keep", 3, 0);
        }
        for (Stage stage : Stage.ALL) {
            for (int person : beyond(stage.people)) {
                refused(UNKNOWN, stage, "keep", 0, person);
                refused(UNKNOWN, stage, "keep", 3, person);
            }
        }
    }

    private static void keepState() {
        due.says(16, "STATE: it is not empty, or he has none.");
        for (int bottle = 0; bottle <= 3; bottle++) {
            // Nobody has any here, and all are empty.
            refused(STATE, Stage.PLAIN, "keep", bottle, 0);
            refused(STATE, Stage.PLAIN, "keep", bottle, 1);
            // All have some here, but for the first one, and none is empty.
            refused(STATE, Stage.ALL_FULL, "keep", bottle, 0);
            refused(STATE, Stage.ALL_FULL, "keep", bottle, 1);
            refused(STATE, Stage.ALL_FULL, "keep", bottle, 3);
        }
        refused(STATE, Stage.BUSY, "keep", 0, 0);
    }

    private static void pour() {
        due.says(17, "UNKNOWN: bottle, place;");
        for (Stage stage : Stage.ALL) {
            for (int bottle : NO_BOTTLES) {
                refused(UNKNOWN, stage, "pour", bottle, 0);
                refused(UNKNOWN, stage, "pour", bottle, 6);
            }
            for (int place : NO_PLACES) {
                refused(UNKNOWN, stage, "pour", 0, place);
                refused(UNKNOWN, stage, "pour", 3, place);
            }
        }
        for (Stage stage : Stage.WITHOUT_VALLEY) {
            refused(UNKNOWN, stage, "pour", 0, 0);
            refused(UNKNOWN, stage, "pour", 3, 5);
        }
    }

    private static void pourState() {
        due.says(17, "STATE: it is empty;");
        for (int bottle = 0; bottle <= 3; bottle++) {
            refused(STATE, Stage.PLAIN, "pour", bottle, 0);
            refused(STATE, Stage.PLAIN, "pour", bottle, 5);
        }
        refused(STATE, Stage.BUSY, "pour", 1, 2);
        refused(STATE, Stage.FOUR_POURED, "pour", 0, 0);
        due.says(17, "FULL: four are POURED.");
        refused(FULL, Stage.FOUR_POURED, "pour", 1, 0);
        for (int bottle = 0; bottle <= 3; bottle++) {
            refused(FULL, Stage.ALL_FULL, "pour", bottle, 0);
            refused(FULL, Stage.ALL_FULL, "pour", bottle, 5);
        }
    }

    private static void bottle() {
        due.says(18, "How much is in a BOTTLE. UNKNOWN.");
        for (Stage stage : Stage.ALL) {
            for (int bottle : NO_BOTTLES) {
                refused(UNKNOWN, stage, "bottle", bottle);
            }
        }
        for (Stage stage : Stage.WITHOUT_VALLEY) {
            refused(UNKNOWN, stage, "bottle", 0);
            refused(UNKNOWN, stage, "bottle", 3);
        }
    }

    private static void would() {
        due.says(19, "Which PAILS would SET, as bits. STATE: no VALLEY.");
        for (Stage stage : Stage.WITHOUT_VALLEY) {
            refused(STATE, stage, "would");
        }
    }

    private static void few() {
        due.says(20, "OUTSIDE: pails (bits, one at least;");
        for (Stage stage : Stage.ALL) {
            int[] noPails = {0, 1 << stage.pails, (1 << stage.pails) + 1, -1, MIN, MAX};
            for (int pails : noPails) {
                refused(OUTSIDE, stage, "few", pails, 0);
                refused(OUTSIDE, stage, "few", pails, 12);
                refused(OUTSIDE, stage, "few", pails, 13);
            }
        }
        due.says(20, "so always without a VALLEY), what;");
        for (Stage stage : Stage.WITHOUT_VALLEY) {
            for (int pails = 0; pails < 64; pails++) {
                refused(OUTSIDE, stage, "few", pails, 0);
            }
        }
        for (Stage stage : Stage.WITH_VALLEY) {
            for (int what : NO_ROW_TELLS) {
                refused(OUTSIDE, stage, "few", 1, what);
                refused(OUTSIDE, stage, "few", (1 << stage.pails) - 1, what);
            }
        }
        due.says(20, "STATE: few() was done 30 times.");
        refused(STATE, Stage.ALL_FULL, "few", 1, 0);
        refused(STATE, Stage.ALL_FULL, "few", 63, 12);
    }

    private static void week() {
        due.says(21, "OUTSIDE: days (1 to 3), what;");
        for (Stage stage : Stage.ALL) {
            for (int days : NO_WEEK_DAYS) {
                refused(OUTSIDE, stage, "week", days, 0);
                refused(OUTSIDE, stage, "week", days, 12);
                refused(OUTSIDE, stage, "week", days, 13);
            }
            for (int what : NO_ROW_TELLS) {
                refused(OUTSIDE, stage, "week", 1, what);
                refused(OUTSIDE, stage, "week", 3, what);
            }
        }
        due.says(21, "STATE: no VALLEY, or week() was done 20 times.");
        for (Stage stage : Stage.WITHOUT_VALLEY) {
            refused(STATE, stage, "week", 1, 0);
            refused(STATE, stage, "week", 3, 12);
        }
        refused(STATE, Stage.ALL_FULL, "week", 1, 0);
        refused(STATE, Stage.ALL_FULL, "week", 3, 12);
    }

    private static void who() {
        due.says(22, "OUTSIDE: pails (bits; none: 0);");
        for (Stage stage : Stage.ALL) {
            int[] noPails = {1 << stage.pails, (1 << stage.pails) + 1, 64, -1, MIN, MAX};
            for (int pails : noPails) {
                refused(OUTSIDE, stage, "who", pails);
            }
        }
        due.says(22, "STATE: no VALLEY.");
        for (Stage stage : Stage.WITHOUT_VALLEY) {
            refused(STATE, stage, "who", 0);
        }
    }

    private static void see() {
        due.says(23, "UNKNOWN: person;");
        for (Stage stage : Stage.ALL) {
            for (int person : beyond(stage.people)) {
                refused(UNKNOWN, stage, "see", person, 0, 0);
                refused(UNKNOWN, stage, "see", person, 3, 0);
                refused(UNKNOWN, stage, "see", person, 0, 100);
            }
        }
        due.says(23, "OUTSIDE: how (0 to 2), by (0 to 99);");
        int[] noGrowths = {-1, 100, MIN, MAX};
        for (Stage stage : Stage.WITH_VALLEY) {
            for (int how : NO_SLIGHTS) {
                refused(OUTSIDE, stage, "see", 0, how, 0);
                refused(OUTSIDE, stage, "see", stage.people - 1, how, 99);
            }
            for (int by : noGrowths) {
                refused(OUTSIDE, stage, "see", 0, 0, by);
                refused(OUTSIDE, stage, "see", stage.people - 1, 2, by);
            }
        }
        due.says(23, "by (0 to 99); FULL.");
        refused(FULL, Stage.ALL_FULL, "see", 0, 0, 0);
        refused(FULL, Stage.ALL_FULL, "see", 3, 2, 99);
    }

    private static void weeks() {
        due.says(25, "OUTSIDE: days (1 to 60), seed (0 at least), what;");
        int[] noDays = {0, -1, 61, MIN, MAX};
        int[] noSeeds = {-1, MIN};
        int[] noTells = {-1, 3, MIN, MAX};
        for (Stage stage : Stage.ALL) {
            for (int days : noDays) {
                refused(OUTSIDE, stage, "weeks", days, 0, 0);
            }
            for (int seed : noSeeds) {
                refused(OUTSIDE, stage, "weeks", 1, seed, 0);
                refused(OUTSIDE, stage, "weeks", 60, seed, 2);
            }
            for (int what : noTells) {
                refused(OUTSIDE, stage, "weeks", 1, 0, what);
                refused(OUTSIDE, stage, "weeks", 60, MAX, what);
            }
        }
        due.says(25, "what; STATE: no VALLEY.");
        for (Stage stage : Stage.WITHOUT_VALLEY) {
            refused(STATE, stage, "weeks", 1, 0, 0);
            refused(STATE, stage, "weeks", 60, MAX, 2);
        }
    }

    private static void image() {
        due.says(26, "how many NIGHTS there were. STATE: no VALLEY.");
        for (Stage stage : Stage.WITHOUT_VALLEY) {
            refused(STATE, stage, "image");
        }
    }

    private static void restore() {
        due.says(27, "STATE: none was kept,");
        for (Stage stage : Stage.WITHOUT_VALLEY) {
            refused(STATE, stage, "restore");
        }
        refused(STATE, Stage.PLAIN, "restore");
        due.says(27, "or there is another VALLEY since.");
        refused(STATE, Stage.ANOTHER, "restore");
    }

    private static void count() {
        due.says(28, "13 how often few() was done, 14 week(). OUTSIDE.");
        int[] noTells = {-1, 15, MIN, MAX};
        for (Stage stage : Stage.ALL) {
            for (int what : noTells) {
                refused(OUTSIDE, stage, "count", what);
            }
        }
    }
}
