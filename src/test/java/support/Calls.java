/** Calls of the class by their names, so that tests can write runs of calls as text. */
final class Calls {
    private Calls() {
    }

    static long make(GrudgeRennet x, String name, int... with) {
        int a = with.length > 0 ? with[0] : 0;
        int b = with.length > 1 ? with[1] : 0;
        int c = with.length > 2 ? with[2] : 0;
        return switch (name) {
            case "letter" -> x.letter(a);
            case "blank" -> x.blank();
            case "fault" -> x.fault();
            case "valley" -> x.valley();
            case "person" -> x.person(a, b);
            case "as" -> x.as(a, b);
            case "pail" -> x.pail(a, b);
            case "slight" -> x.slight(a, b);
            case "soothe" -> x.soothe(a);
            case "sit" -> x.sit(a, b);
            case "night" -> x.night();
            case "curdle" -> x.curdle();
            case "fresh" -> x.fresh(a);
            case "force" -> x.force(a);
            case "keep" -> x.keep(a, b);
            case "pour" -> x.pour(a, b);
            case "bottle" -> x.bottle(a);
            case "would" -> x.would();
            case "few" -> x.few(a, b);
            case "week" -> x.week(a, b);
            case "who" -> x.who(a);
            case "see" -> x.see(a, b, c);
            case "forget" -> x.forget();
            case "weeks" -> x.weeks(a, b, c);
            case "image" -> x.image();
            case "restore" -> x.restore();
            case "count" -> x.count(a);
            case "digest" -> x.digest();
            default -> throw new IllegalStateException(name);
        };
    }

    /** Steps with "; " between: "slight 0 1", "5 night" (five times), "write" and a text without spaces. */
    static void run(GrudgeRennet x, String steps) {
        for (String step : steps.split("; ")) {
            String[] words = step.trim().split(" ");
            if (words[0].isEmpty()) {
                continue;
            }
            if (words[0].equals("write")) {
                Due.write(x, words[1]);
                continue;
            }
            boolean often = Character.isDigit(words[0].charAt(0));
            int from = often ? 1 : 0;
            int[] with = new int[words.length - from - 1];
            for (int i = 0; i < with.length; i++) {
                with[i] = Integer.parseInt(words[from + 1 + i]);
            }
            for (int i = often ? Integer.parseInt(words[0]) : 1; i > 0; i--) {
                make(x, words[from], with);
            }
        }
    }
}
