/** Counts the answers that are not as due, and prints them. */
final class Due {
    private int wrong = 0;
    private int asked = 0;

    void is(int promise, String call, long got, long want) {
        asked++;
        if (got != want) {
            wrong++;
            System.out.println("promise " + promise + ": " + call + " answered " + got + ", due is " + want);
        }
    }

    void end(String name) {
        System.out.println(name + ": " + asked + " answers, " + wrong + " not as due");
        if (wrong != 0) {
            System.exit(1);
        }
    }

    static void write(GrudgeRennet x, String text) {
        for (char c : text.toCharArray()) {
            x.letter(c);
        }
    }

    static GrudgeRennet in(String text) {
        GrudgeRennet x = new GrudgeRennet();
        write(x, text);
        int pails = x.valley();
        if (pails < 2) {
            throw new IllegalStateException("the test's own valley is none: " + text);
        }
        return x;
    }
}
