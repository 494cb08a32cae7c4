import java.util.Random;

/** Random runs of calls, the same each time, on the class and on the model side by side. */
public final class ModelTest {
    private static final int[] ODD = {Integer.MIN_VALUE, Integer.MAX_VALUE, -1, -2, 64, 1 << 16, 100, 7, 13, 9, 5, 6};
    private static final String[] NAMES = {"letter", "blank", "fault", "valley", "person", "as", "pail", "slight",
        "soothe", "sit", "night", "curdle", "fresh", "force", "keep", "pour", "bottle", "would", "few", "week", "who",
        "see", "forget", "weeks", "image", "restore", "count", "digest"};
    // How often each of these is called, by their order: what changes grudges and drops goes ahead.
    private static final int[] OFTEN = {3, 1, 3, 2, 12, 3, 9, 14, 2, 4, 4, 3, 4, 4, 9, 8, 2, 4, 3, 2, 5,
        7, 1, 4, 2, 2, 5, 4};

    private final Random random;
    private final GrudgeRennet x = new GrudgeRennet();
    private final Model model = new Model();
    private int wrong = 0;
    private int calls = 0;
    private final StringBuilder told = new StringBuilder();

    private ModelTest(long seed) {
        random = new Random(seed);
    }

    public static void main(String[] args) {
        int runs = args.length > 0 ? Integer.parseInt(args[0]) : 400;
        int wrong = 0;
        long calls = 0;
        for (int seed = 1; seed <= runs && wrong == 0; seed++) {
            ModelTest run = new ModelTest(seed);
            run.play();
            wrong += run.wrong;
            calls += run.calls;
        }
        System.out.println("ModelTest: " + calls + " answers, " + wrong + " not as due");
        if (wrong != 0) {
            System.exit(1);
        }
    }

    private void play() {
        // Some runs go on for long in one valley, so that limits are reached.
        int stay = random.nextInt(3) == 0 ? 1 : 60;
        if (random.nextInt(10) != 0) {
            writeValley();
        }
        while (calls < 512 && wrong == 0) {
            if (random.nextInt(stay * 4) == 0) {
                writeValley();
            } else {
                callAny();
            }
        }
    }

    private void writeValley() {
        call("blank", 0, 0, 0);
        String text = valleyText();
        if (random.nextInt(4) == 0) {
            text = spoiled(text);
        }
        for (char c : text.toCharArray()) {
            call("letter", c, 0, 0);
        }
        call("fault", 0, 0, 0);
        call("valley", 0, 0, 0);
    }

    private String valleyText() {
        StringBuilder text = new StringBuilder();
        int people = 2 + random.nextInt(3);
        for (int i = 0; i < people; i++) {
            text.append(i == 0 ? "" : ",").append("psbtm".charAt(random.nextInt(5)));
            text.append(1 + random.nextInt(9)).append(random.nextInt(6));
        }
        text.append(';');
        int pails = 2 + random.nextInt(5);
        for (int i = 0; i < pails; i++) {
            text.append(1 + random.nextInt(9));
        }
        return text.toString();
    }

    private String spoiled(String text) {
        int at = random.nextInt(text.length());
        char other = "psbtm0123456789,;q:/".charAt(random.nextInt(20));
        return switch (random.nextInt(4)) {
            case 0 -> text.substring(0, at);
            case 1 -> text.substring(0, at) + other + text.substring(at + 1);
            case 2 -> text.substring(0, at) + text.substring(at + 1);
            default -> text + other;
        };
    }

    private void callAny() {
        int all = 0;
        for (int often : OFTEN) {
            all += often;
        }
        int pick = random.nextInt(all);
        int name = 0;
        while (pick >= OFTEN[name]) {
            pick -= OFTEN[name];
            name++;
        }
        callNamed(NAMES[name]);
    }

    private int mostly(int below) {
        return random.nextInt(25) == 0 ? ODD[random.nextInt(ODD.length)] : random.nextInt(below);
    }

    private int rowTell() {
        return random.nextInt(3) == 0 ? mostly(1) : 10 + mostly(3);
    }

    private int seenBy(int person, int how) {
        int grows = x.person(person, 10 + how);
        return grows >= 0 && random.nextInt(3) != 0 ? grows : mostly(12);
    }

    private void callNamed(String name) {
        switch (name) {
            case "letter" -> call(name, random.nextInt(3) == 0 ? mostly(130) : "psbtm123,;".charAt(random.nextInt(10)), 0, 0);
            case "person" -> call(name, mostly(4), mostly(13), 0);
            case "as" -> call(name, mostly(4), mostly(5), 0);
            case "pail" -> call(name, mostly(6), mostly(7), 0);
            case "slight" -> call(name, mostly(4), mostly(3), 0);
            case "sit" -> call(name, mostly(4), mostly(6), 0);
            case "keep" -> call(name, mostly(4), mostly(4), 0);
            case "pour" -> call(name, mostly(4), mostly(6), 0);
            case "few" -> call(name, mostly(1 << Math.max(2, x.count(1))), rowTell(), 0);
            case "week" -> call(name, 1 + mostly(3), rowTell(), 0);
            case "who" -> call(name, random.nextInt(3) == 0 ? x.would() : mostly(64), 0, 0);
            case "see" -> {
                int person = mostly(4);
                int how = mostly(3);
                call(name, person, how, seenBy(person, how));
            }
            case "weeks" -> call(name, random.nextInt(2) == 0 ? mostly(62) : 1 + mostly(5),
                random.nextInt(2) == 0 ? random.nextInt() : mostly(1000), mostly(3));
            case "count" -> call(name, mostly(15), 0, 0);
            default -> call(name, mostly(6), 0, 0);
        }
    }

    private void call(String name, int a, int b, int c) {
        if (calls >= 512) {
            return;
        }
        calls++;
        told.append(name).append('(').append(a).append(", ").append(b).append(", ").append(c).append(") ");
        long got = Calls.make(x, name, a, b, c);
        long want = ofModel(name, a, b, c);
        if (got != want) {
            wrong++;
            System.out.println("answered " + got + ", due is " + want + ", at the end of: " + told);
        }
    }

    private long ofModel(String name, int a, int b, int c) {
        return switch (name) {
            case "letter" -> model.letter(a);
            case "blank" -> model.blank();
            case "fault" -> model.fault();
            case "valley" -> model.valley();
            case "person" -> model.person(a, b);
            case "as" -> model.as(a, b);
            case "pail" -> model.pail(a, b);
            case "slight" -> model.slight(a, b);
            case "soothe" -> model.soothe(a);
            case "sit" -> model.sit(a, b);
            case "night" -> model.night();
            case "curdle" -> model.curdle();
            case "fresh" -> model.fresh(a);
            case "force" -> model.force(a);
            case "keep" -> model.keep(a, b);
            case "pour" -> model.pour(a, b);
            case "bottle" -> model.bottle(a);
            case "would" -> model.would();
            case "few" -> model.few(a, b);
            case "week" -> model.week(a, b);
            case "who" -> model.who(a);
            case "see" -> model.see(a, b, c);
            case "forget" -> model.forget();
            case "weeks" -> model.weeks(a, b, c);
            case "image" -> model.image();
            case "restore" -> model.restore();
            case "count" -> model.count(a);
            case "digest" -> model.digest();
            default -> throw new IllegalStateException(name);
        };
    }
}
