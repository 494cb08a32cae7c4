/** The bounds that 'Terms' names: the last value that is allowed and the first that is not, empty and full. */
public final class TermsBoundsTest {
    private static final int NONE = -1, STATE = -103;
    private static final int TERMS = Sentences.TERMS;
    private static final Sentences due = new Sentences();

    // By pride, from 1 to 9.
    private static final int[] CHAIR = {0, 1, 2, 3, 4, 4, 5, 6, 7};
    private static final int[] HEM = {1, 2, 3, 4, 6, 7, 8, 9, 10};
    private static final int[] THANKS = {0, 0, 1, 1, 2, 2, 2, 3, 3};
    private static final int[] SAINT_CHAIR = {0, 0, 1, 1, 2, 2, 2, 3, 3};
    private static final int[] SAINT_HEM = {0, 1, 1, 2, 3, 3, 4, 4, 5};
    private static final int[] SAINT_THANKS = {0, 0, 0, 0, 1, 1, 1, 1, 1};
    private static final int[] TOUCHY_HEM = {2, 4, 7, 9, 12, 14, 16, 19, 21};

    public static void main(String[] args) {
        letters();
        people();
        pails();
        atFirst();
        kinds();
        growths();
        mostGrudge();
        nights();
        forces();
        forcesTogether();
        setting();
        bottles();
        slightNumbers();
        allFresh();
        drops();
        few();
        fewFirst();
        week();
        weekFirst();
        seat();
        pour();
        odds();
        who();
        seen();
        tries();
        weeks();
        image();
        imageKeepsNoMore();
        due.end("TermsBoundsTest", allPromises());
    }

    private static int[] allPromises() {
        int[] all = new int[29];
        for (int i = 0; i < all.length; i++) {
            all[i] = i + 1;
        }
        return all;
    }

    private static GrudgeRennet in(String text, String steps) {
        GrudgeRennet x = Due.in(text);
        Calls.run(x, steps);
        return x;
    }

    private static int faultOf(String text) {
        GrudgeRennet x = new GrudgeRennet();
        Due.write(x, text);
        return x.fault();
    }

    private static int valleyOf(String text) {
        GrudgeRennet x = new GrudgeRennet();
        Due.write(x, text);
        return x.valley();
    }

    /** Behind such letters just these may come, of all codes. */
    private static void behind(String ahead, String allowed) {
        for (char code = 1; code <= 126; code++) {
            int want = ahead.length() + (allowed.indexOf(code) >= 0 ? 1 : 0);
            due.is("fault() of '" + ahead + "' and code " + (int) code, faultOf(ahead + code), want);
        }
    }

    private static void letters() {
        String kinds = "psbtm";
        String one = "p10";
        String two = "p10,s25";
        String three = "p10,s25,b34";
        String four = "p10,s25,b34,m93";
        due.says(TERMS, "each a letter, the KIND");
        behind("", kinds);
        behind(one + ",", kinds);
        behind(two + ",", kinds);
        behind(three + ",", kinds);
        due.says(TERMS, "PRIDE (1 to 9)");
        behind("t", "123456789");
        behind(one + ",m", "123456789");
        behind(three + ",m", "123456789");
        due.says(TERMS, "the PLACE where one sits (0 to 5)");
        behind("t9", "012345");
        behind(one + ",m1", "012345");
        behind(three + ",m9", "012345");
        due.says(TERMS, "two to four PEOPLE (numbered from 0) with \",\" between");
        behind(one, ",");
        behind(two, ",;");
        behind(three, ",;");
        behind(four, ";");
        due.says(TERMS, "two to six digits, what PAILS WANT (1 to 9;");
        behind(two + ";", "123456789");
        behind(two + ";1", "123456789");
        behind(two + ";12345", "123456789");
        behind(two + ";123456", "");
        behind(three + ";123456", "");
        behind(four + ";12345", "123456789");
        behind(four + ";123456", "");
    }

    private static void people() {
        due.says(TERMS, "two to four PEOPLE");
        due.is("valley() of nobody", valleyOf(";12"), STATE);
        due.is("valley() of one", valleyOf("p10;12"), STATE);
        due.is("valley() of two", valleyOf("p10,p10;12"), 2);
        due.is("valley() of three", valleyOf("p10,p10,p10;12"), 2);
        due.is("valley() of four", valleyOf("p10,p10,p10,p10;12"), 2);
        due.is("valley() of five", valleyOf("p10,p10,p10,p10,p10;12"), STATE);
        due.is("two people", Due.in("p10,p10;12").count(0), 2);
        due.is("four people", Due.in("p10,p10,p10,p10;12").count(0), 4);
        GrudgeRennet x = Due.in("p10,s95,b14,m93;12");
        due.is("the least pride", x.person(0, 1), 1);
        due.is("the most pride", x.person(1, 1), 9);
        due.is("the least place", x.person(0, 2), 0);
        due.is("the last place", x.person(1, 2), 5);
    }

    private static void pails() {
        due.says(TERMS, "two to six digits, what PAILS WANT");
        due.is("valley() of no pail", valleyOf("p10,p10;"), STATE);
        due.is("valley() of one pail", valleyOf("p10,p10;9"), STATE);
        for (int pails = 2; pails <= 6; pails++) {
            due.is("valley() of " + pails, valleyOf("p10,p10;" + "123456".substring(0, pails)), pails);
            due.is("four people's of " + pails, valleyOf("p10,p10,p10,p10;" + "123456".substring(0, pails)), pails);
        }
        due.is("valley() of seven", valleyOf("p10,p10;1234567"), STATE);
        due.is("four people's of seven", valleyOf("p10,p10,p10,p10;1234567"), STATE);
        due.says(TERMS, "PAIL 0 at PLACE 0, and so on");
        GrudgeRennet x = Due.in("p50,p55;912345");
        x.slight(0, 1);
        x.slight(1, 0);
        due.is("pail(0, 0)", x.pail(0, 0), 9);
        due.is("pail(5, 0)", x.pail(5, 0), 5);
        due.is("the force at the first pail", x.pail(0, 1), 6);
        due.is("the force at the last pail", x.pail(5, 1), 4);
    }

    private static void atFirst() {
        due.says(TERMS, "At first there is none;");
        GrudgeRennet x = new GrudgeRennet();
        due.is("count(0)", x.count(0), 0);
        due.is("count(1)", x.count(1), 0);
        due.is("count(12)", x.count(12), 0);
        due.is("would()", x.would(), STATE);
        due.says(TERMS, "then nobody has a GRUDGE, all milk is fresh, BOTTLES 0 to 3 are empty.");
        x = Due.in("p50,t94,m35,b12;123456");
        for (int i = 0; i < 4; i++) {
            due.is("the grudge of " + i, x.person(i, 3), 0);
            due.is("bottle(" + i + ")", x.bottle(i), 0);
        }
        for (int i = 0; i < 6; i++) {
            due.is("fresh(" + i + ")", x.fresh(i), 0);
        }
    }

    private static void kinds() {
        due.says(TERMS, "All are PEOPLE; a MARTYR is a SAINT, too.");
        String letters = "psbtm";
        for (int kind = 0; kind < 5; kind++) {
            GrudgeRennet x = Due.in("p10," + letters.charAt(kind) + "10;12");
            due.is("the kind of " + letters.charAt(kind), x.person(1, 0), kind);
            for (int other = 0; other < 5; other++) {
                boolean is = other == 0 || other == kind || kind == 4 && other == 1;
                due.is(letters.charAt(kind) + " as " + other, x.as(1, other), is ? 1 : NONE);
            }
        }
    }

    private static void growthOf(String kind, int[] chair, int[] hem, int[] thanks) {
        int[][] want = {chair, hem, thanks};
        for (int pride = 1; pride <= 9; pride++) {
            for (int how = 0; how < 3; how++) {
                GrudgeRennet x = Due.in("p10," + kind + pride + "0;12");
                due.is("growth of " + kind + pride + " by " + how, x.person(1, 10 + how), want[how][pride - 1]);
                due.is("slight of " + kind + pride + " by " + how, x.slight(1, how), want[how][pride - 1]);
            }
        }
    }

    private static void growths() {
        due.says(TERMS, "By a SLIGHT one's GRUDGE grows by its worth times PRIDE by 5, rounded down;");
        growthOf("p", CHAIR, HEM, THANKS);
        growthOf("b", CHAIR, HEM, THANKS);
        due.says(TERMS, "a SAINT's by half of that, rounded down;");
        growthOf("s", SAINT_CHAIR, SAINT_HEM, SAINT_THANKS);
        growthOf("m", SAINT_CHAIR, SAINT_HEM, SAINT_THANKS);
        due.says(TERMS, "to a TOUCHY one a HEM is worth 12;");
        growthOf("t", CHAIR, TOUCHY_HEM, THANKS);
    }

    /** One whose grudge becomes just so great: thanks are worth 2 to one of pride 5, 1 to one of pride 3. */
    private static GrudgeRennet grudgeOf(String kind, int grudge) {
        boolean odd = grudge % 2 != 0;
        GrudgeRennet x = Due.in("p10," + kind + (odd ? "30" : "50") + ";12");
        int step = odd ? 1 : 2;
        for (int i = 0; i < grudge / step; i++) {
            x.slight(1, 2);
        }
        return x;
    }

    private static void mostGrudge() {
        due.says(TERMS, "it is 99 at most.");
        GrudgeRennet x = Due.in("p10,p50;12");
        for (int i = 0; i < 49; i++) {
            x.slight(1, 2);
        }
        due.is("below the most", x.person(1, 3), 98);
        due.is("growth by thanks at 98", x.person(1, 12), 1);
        due.is("growth by a hem at 98", x.person(1, 11), 1);
        due.is("slight at 98", x.slight(1, 2), 99);
        due.is("growth at 99", x.person(1, 12), 0);
        due.is("slight at 99", x.slight(1, 1), 99);
        due.is("slights are counted still", x.person(1, 4), 51);
        x = grudgeOf("p", 97);
        due.is("one more at 97", x.slight(1, 2), 98);
        due.is("just the most", x.slight(1, 2), 99);
        due.is("no more", x.slight(1, 2), 99);
    }

    private static void nightOf(String kind, int grudge, int then) {
        GrudgeRennet x = grudgeOf(kind, grudge);
        due.is("a grudge of " + kind, x.person(1, 3), grudge);
        x.night();
        due.is("a grudge of " + grudge + " of " + kind + " over night", x.person(1, 3), then);
    }

    private static void nights() {
        due.says(TERMS, "On a NIGHT each GRUDGE becomes half, rounded down;");
        int[] grudges = {0, 1, 2, 3, 4, 5, 98, 99};
        int[] halves = {0, 0, 1, 1, 2, 2, 49, 49};
        for (int i = 0; i < grudges.length; i++) {
            nightOf("p", grudges[i], halves[i]);
            nightOf("t", grudges[i], halves[i]);
        }
        due.says(TERMS, "a BROODER's stays;");
        for (int grudge : grudges) {
            nightOf("b", grudge, grudge);
        }
        due.says(TERMS, "a MARTYR's becomes 1 more than half, if there was any.");
        // Thanks are worth 1 to one of pride 9.
        int[] martyrs = {0, 1, 2, 3, 4, 5, 98, 99};
        int[] then = {0, 1, 2, 2, 3, 3, 50, 50};
        for (int i = 0; i < martyrs.length; i++) {
            GrudgeRennet x = Due.in("s90,m90;12");
            Calls.run(x, martyrs[i] + " slight 0 2; " + martyrs[i] + " slight 1 2; night");
            due.is("a martyr's " + martyrs[i] + " over night", x.person(1, 3), then[i]);
            due.is("a saint's " + martyrs[i] + " over night", x.person(0, 3), martyrs[i] / 2);
        }
    }

    private static void forces() {
        due.says(TERMS, "2 less for each PLACE that he is away (0 at least)");
        for (int grudge = 1; grudge <= 12; grudge++) {
            GrudgeRennet x = Due.in("p10,p30;12");
            Calls.run(x, grudge + " slight 1 2");
            for (int at = 0; at <= 5; at += 5) {
                x.sit(1, at);
                for (int away = 0; away <= 5; away++) {
                    due.is("of " + grudge + ", " + away + " away", x.force(Math.abs(at - away)),
                        Math.max(0, grudge - 2 * away));
                }
            }
        }
        due.says(TERMS, "and so of each drop that was POURED somewhere, together.");
        for (int drop = 1; drop <= 12; drop++) {
            GrudgeRennet x = Due.in("p10,p30;12");
            Calls.run(x, drop + " slight 1 2; keep 0 1; pour 0 5");
            for (int place = 0; place <= 5; place++) {
                due.is("of a drop of " + drop + " at " + place, x.force(place), Math.max(0, drop - 2 * (5 - place)));
            }
        }
    }

    private static void forcesTogether() {
        due.says(TERMS, "(0 at least), and so of each drop");
        GrudgeRennet x = Due.in("p50,p55;12");
        // 2 at 0 and 2 at 5 take nothing from each other, far as they are; so with drops of 2.
        Calls.run(x, "slight 0 2; slight 1 2");
        due.is("force(0)", x.force(0), 2);
        due.is("force(1)", x.force(1), 0);
        due.is("force(5)", x.force(5), 2);
        Calls.run(x, "keep 0 0; keep 1 1; pour 0 0; pour 1 5; slight 0 2");
        due.is("force(0) with drops", x.force(0), 4);
        due.is("force(3) with drops", x.force(3), 0);
        due.is("force(5) with drops", x.force(5), 2);
        x = Due.in("t92,t92,t92,t92;12");
        for (int i = 0; i < 4; i++) {
            Calls.run(x, "5 slight " + i + " 1; keep " + i + " " + i + "; pour " + i + " 2; 5 slight " + i + " 1");
        }
        due.is("the most force", x.force(2), 8 * 99);
        due.is("the most force, from afar", x.force(5), 8 * 93);
    }

    private static void setting() {
        due.says(TERMS, "the FORCE is as much as the PAIL WANTS, or more;");
        for (int want = 1; want <= 9; want++) {
            GrudgeRennet x = Due.in("p10,p30;" + want + "9");
            Calls.run(x, (want - 1) + " slight 1 2");
            due.is("1 less than " + want, x.curdle(), 0);
            due.is("would() by 1 less", x.would(), 0);
            x.slight(1, 2);
            due.is("as much as " + want, x.would(), 1);
            due.is("curdle() by as much as " + want, x.curdle(), 1);
            x.fresh(0);
            x.slight(1, 2);
            due.is("curdle() by 1 more than " + want, x.curdle(), 1);
        }
        due.says(TERMS, "all milk SETS in PAILS where it is fresh");
        GrudgeRennet x = Due.in("p52,p52;212121");
        Calls.run(x, "2 slight 0 1");
        due.is("curdle() of six", x.curdle(), 6);
        due.is("curdle() of none", x.curdle(), 0);
        x.fresh(5);
        due.is("curdle() of the last", x.curdle(), 1);
        due.says(TERMS, "drops that were POURED are gone then.");
        x = Due.in("p50,p52;99");
        Calls.run(x, "slight 0 1; keep 0 0; pour 0 5; slight 0 1; keep 0 0; pour 0 1");
        due.is("curdle() by drops that are too few", x.curdle(), 0);
        due.is("drops", x.count(6), 0);
        due.is("force(5)", x.force(5), 0);
        due.is("force(1)", x.force(1), 0);
    }

    private static void bottles() {
        due.says(TERMS, "One's GRUDGE may be KEPT in an empty BOTTLE: he has none then.");
        GrudgeRennet x = grudgeOf("p", 99);
        for (int bottle = 0; bottle <= 3; bottle++) {
            Calls.run(x, "99 slight 1 2");
            due.is("keep(" + bottle + ", 1)", x.keep(bottle, 1), 99);
            due.is("he has none", x.person(1, 3), 0);
        }
        due.is("all are full", x.count(5), 4);
        due.says(TERMS, "A BOTTLE that is POURED at a PLACE is empty then.");
        for (int bottle = 0; bottle <= 3; bottle++) {
            due.is("pour(" + bottle + ", 5)", x.pour(bottle, 5), 99);
            due.is("it is empty", x.bottle(bottle), 0);
        }
        due.is("none is full", x.count(5), 0);
        x = Due.in("p10,p30;12");
        Calls.run(x, "slight 1 2");
        due.is("the least that is kept", x.keep(3, 1), 1);
        due.is("one is full", x.count(5), 1);
        due.is("the least that is poured", x.pour(3, 0), 1);
    }

    private static void slightNumbers() {
        due.says(TERMS, "A SLIGHT as a number is 3 times the one who is SLIGHTED, and the SLIGHT.");
        GrudgeRennet x = Due.in("p10,p10,p10,t90;99");
        // A hem of the last one is 10; nothing else sets, and of the first one a chair is 0, a hem 1.
        due.is("who(3)", x.who(3), 1 << 10);
        due.is("few(3, 10)", x.few(3, 10), 10);
        due.is("week(1, 10)", x.week(1, 10), 10);
        x = Due.in("p50,p15;49");
        due.is("the first: few(1, 10)", x.few(1, 10), 0);
        due.is("the first: week(1, 10)", x.week(1, 10), 0);
        x = Due.in("b10,b10,b10,b90;39");
        // Thanks of the last one are just enough; by a hem of 10 pail 1 lacks 1.
        due.is("the last: who(1)", x.who(1), (1 << 9) + (1 << 10) + (1 << 11));
        due.is("few(1, 10)", x.few(1, 10), 9);
    }

    private static void allFresh() {
        due.says(TERMS, "if it was time to CURDLE, all milk being fresh.");
        GrudgeRennet x = Due.in("p50,p50;49");
        Calls.run(x, "slight 0 0; curdle");
        due.is("would() of what is set", x.would(), 1);
        due.is("pail(0, 3) of what is set", x.pail(0, 3), 1);
        x.soothe(0);
        due.is("would() of what would not", x.would(), 0);
        due.is("it is set all the same", x.pail(0, 2), 1);
        due.is("few(1, 0) of what is set", x.few(1, 0), 1);
        due.is("week(1, 0) of what is set", x.week(1, 0), 1);
    }

    private static void fewIs(String text, String steps, int pails, int... want) {
        GrudgeRennet x = in(text, steps);
        int[] whats = {0, 10, 11, 12};
        for (int i = 0; i < 4; i++) {
            due.is("few(" + pails + ", " + whats[i] + ") in " + text + " " + steps, x.few(pails, whats[i]), want[i]);
        }
    }

    private static void drops() {
        due.says(TERMS, "What would SET is all in which milk would SET if it was time to CURDLE");
        // A drop of 6 at 2: 2, 4, 6 of 4, 9, 9; a chair of the first one adds 4, 2, 0; thanks of his 2, 0, 0.
        String poured = "slight 0 1; keep 0 0; pour 0 2";
        GrudgeRennet x = in("p50,p55;499", poured);
        due.is("would()", x.would(), 0);
        due.is("who(1)", x.who(1), 7);
        due.is("who(0)", x.who(0), 56);
        due.is("odds of pail 0", x.pail(0, 6), 2);
        due.is("few(1, 10)", x.few(1, 10), 0);
        due.is("few(4, 0)", x.few(4, 0), 2);
        due.is("week(1, 10)", x.week(1, 10), 0);
        x.slight(1, 0);
        due.is("SEAT beside the drop", x.person(1, 5), 0);
        due.is("how many by it", x.person(1, 6), 1);
        x = in("p50,p55;999", poured + "; slight 1 0");
        due.is("SEAT at the drop", x.person(1, 5), 2);
        due.is("how many by it", x.person(1, 6), 1);
    }

    private static void few() {
        due.says(TERMS, "by how few SLIGHTS (0 to 3; some may be the same) now these would SET: how few;");
        fewIs("p50,p55;69", "slight 0 1", 1, 0, NONE, NONE, NONE);
        fewIs("p50,p55;69", "", 1, 1, 1, NONE, NONE);
        // A hem is 3, so that 9 are just three of them; with 1 there a chair of 2 and two hems are enough.
        fewIs("p30,p35;99", "", 1, 3, 1, 1, 1);
        fewIs("p30,p35;99", "slight 0 2", 1, 3, 0, 1, 1);
        fewIs("p30,p35;99", "3 slight 0 2", 1, 2, 1, 1, NONE);
        due.says(TERMS, "(each row with the least SLIGHT ahead); none.");
        // Three hems of 2 are 6, and 7 are wanted: a fourth slight is none.
        fewIs("p20,p20;79", "", 1, NONE, NONE, NONE, NONE);
        fewIs("p20,p20;69", "", 1, 3, 1, 1, 1);
        // All twelve slights of four people are tried, and none is enough.
        fewIs("p20,p20,p20,p20;79", "", 1, NONE, NONE, NONE, NONE);
        fewIs("p10,p10,p10,p20;69", "", 1, 3, 10, 10, 10);
        // Pail 0 alone would set, but not both.
        fewIs("p20,p20;69", "", 3, NONE, NONE, NONE, NONE);
        // By a grudge of 99 nothing is lacking anywhere.
        fewIs("t90,p20;99", "5 slight 0 1", 3, 0, NONE, NONE, NONE);
    }

    private static void fewFirst() {
        due.says(TERMS, "which; of like ones the first by numbers (each row with the least SLIGHT ahead);");
        fewIs("p50,p50;29", "", 1, 1, 0, NONE, NONE);
        fewIs("p10,p50;69", "", 1, 1, 4, NONE, NONE);
        // 8 by two: 0 0 and 0 1, 1 1, 1 2, and of both: 0 0 is the first.
        fewIs("p50,p50;89", "", 1, 2, 0, 0, NONE);
        // 9 by two of 4, 6, 2: 0 1 is the first.
        fewIs("p50,p10;99", "", 1, 2, 0, 1, NONE);
        // A hem of the first one is 2, of the last one 6: they sit so that neither serves both pails.
        fewIs("p20,p55;299996", "", 33, 2, 1, 4, NONE);
    }

    private static void weekIs(String text, String steps, int days, int... want) {
        GrudgeRennet x = in(text, steps);
        int[] whats = {0, 10, 11, 12};
        for (int i = 0; i < 4; i++) {
            due.is("week(" + days + ", " + whats[i] + ") in " + text + " " + steps, x.week(days, whats[i]), want[i]);
        }
    }

    private static void week() {
        due.says(TERMS, "on each nobody is SLIGHTED, or one by one SLIGHT;");
        weekIs("p10,p10;99", "", 3, 0, NONE, NONE, NONE);
        // No slight is worth 7; of a chair 2 is left over night, and a hem makes it 8.
        weekIs("p50,p50;79", "", 1, 0, NONE, NONE, NONE);
        weekIs("p50,p50;79", "", 2, 1, 0, 1, NONE);
        due.says(TERMS, "(drops that were POURED count on the first DAY alone)");
        weekIs("p10,p15;29", "", 1, 0, NONE, NONE, NONE);
        weekIs("b50,b50;99", "2 slight 0 1; keep 0 0; pour 0 0", 1, 2, NONE, NONE, NONE);
        weekIs("p10,p50;99", "3 slight 1 1; keep 0 1; pour 0 0", 2, 3, 4, 4, NONE);
        due.says(TERMS, "then there is a NIGHT: so that most would SET over all DAYS: how many;");
        // A brooder's 1 stays, so that one slight is enough for all days; of any other one half is left.
        weekIs("b10,p10;19", "", 3, 3, 1, NONE, NONE);
        // By two hems of a brooder pail 1 sets, too: 1 on the first day, 2 on the others.
        weekIs("b50,p10;49", "", 3, 5, 1, 1, NONE);
        weekIs("p50,p10;49", "", 3, 3, 0, 0, 0);
        // A grudge of 99 sets all on all days: 99, 49, 24.
        weekIs("t92,p10;999999", "5 slight 0 1", 3, 18, NONE, NONE, NONE);
    }

    private static void weekFirst() {
        due.says(TERMS, "of like ones the first by numbers (none ahead of all; the first DAY first).");
        weekIs("b50,p10;29", "", 1, 1, 0, NONE, NONE);
        // Of a brooder's 8, and 6 at pail 1, a chair makes 12 and 10, and so does a hem.
        weekIs("b50,p10;99", "slight 0 1; slight 0 2", 1, 2, 0, NONE, NONE);
        weekIs("b50,p10;99", "slight 0 1; slight 0 2; slight 0 2", 2, 4, 0, NONE, NONE);
        // The drop serves the first day; for those that follow a brooder's hem of the first day does as that of the second.
        weekIs("b10,p10;19", "18 slight 0 1; keep 0 0; pour 0 0", 2, 3, NONE, 1, NONE);
        weekIs("b10,p10;19", "18 slight 0 1; keep 0 0; pour 0 0", 3, 4, NONE, 1, NONE);
        weekIs("b50,p10;99", "slight 0 1; slight 0 1", 2, 4, NONE, NONE, NONE);
    }

    private static void seatIs(String text, String steps, int person, int place, int howMany) {
        GrudgeRennet x = in(text, steps);
        // How many goes ahead, so that it is told without the other.
        due.is("how many by SEAT of " + person + " in " + text + " " + steps, x.person(person, 6), howMany);
        due.is("SEAT of " + person + " in " + text + " " + steps, x.person(person, 5), place);
    }

    private static void seat() {
        due.says(TERMS, "at which PLACE he should sit so that most would SET: of like ones the least; how many.");
        seatIs("p55,p55;99", "", 0, 0, 0);
        seatIs("p55,p55;999999", "5 slight 0 1", 0, 0, 6);
        seatIs("p50,p50;999994", "slight 0 0", 0, 5, 1);
        seatIs("p50,p50;499999", "slight 0 0", 0, 0, 1);
        seatIs("p50,p50;999944", "slight 0 0", 0, 4, 1);
        seatIs("p50,p50;999944", "slight 0 1", 0, 4, 2);
        // 10 is 8 one place away: three pails from place 1 on, two from place 0.
        seatIs("p55,p50;888888", "slight 0 0; slight 0 1", 0, 1, 3);
    }

    private static int pourOf(String text, String steps, int pail) {
        GrudgeRennet x = in(text, steps);
        return x.pail(pail, 4);
    }

    /** Of pride 5, one's hem in a bottle is 6, a chair 4, thanks 2. */
    private static String kept(int bottle, int how) {
        return "slight 0 " + how + "; keep " + bottle + " 0; ";
    }

    private static void pour() {
        due.says(TERMS, "which of the BOTTLES that are not empty to POUR at its PLACE, so that it would SET: the fewest;");
        String all = kept(0, 2) + kept(1, 2) + kept(2, 2) + kept(3, 0);
        due.is("all four", pourOf("p50,p50;99", all, 0), 15);
        due.is("two of four", pourOf("p50,p50;59", all, 0), 9);
        due.is("one of four", pourOf("p50,p50;49", all, 0), 8);
        due.is("one of all is enough, three are not taken", pourOf("p50,p50;39", all, 0), 8);
        due.says(TERMS, "of these with least in them together;");
        due.is("2 of 2, 2, 2, 4", pourOf("p50,p50;29", kept(0, 0) + kept(3, 2), 0), 8);
        due.is("6 of 6, 4, 2 for 4", pourOf("p50,p50;49", kept(0, 1) + kept(1, 0) + kept(2, 2), 0), 2);
        due.says(TERMS, "of like ones the least, as bits;");
        due.is("1 of like ones", pourOf("p50,p50;29", kept(1, 2) + kept(2, 2) + kept(3, 2), 0), 2);
        due.is("2 of like ones", pourOf("p50,p50;79", kept(0, 0) + kept(1, 0) + kept(2, 0) + kept(3, 0), 0), 3);
        // 6 and 2 are as much as 4 and 4: of bottles 3 and 0, or 1 and 2.
        due.is("8 by 9 or 6, as bits",
            pourOf("p50,p50;89", kept(0, 1) + kept(1, 0) + kept(2, 0) + kept(3, 2), 0), 6);
        due.says(TERMS, "none; 0, if it would anyhow.");
        due.is("no bottle", pourOf("p50,p50;19", "", 0), NONE);
        due.is("too little", pourOf("p50,p50;99", kept(0, 1) + kept(3, 2), 0), NONE);
        due.is("1 too little", pourOf("p50,p50;79", kept(0, 1), 0), NONE);
        due.is("just enough", pourOf("p50,p50;69", kept(0, 1), 0), 1);
        due.is("anyhow", pourOf("p50,p50;69", kept(0, 1) + "slight 1 1", 0), 0);
        due.is("anyhow without a bottle", pourOf("p50,p50;69", "slight 1 1", 0), 0);
        due.is("1 less than anyhow", pourOf("p50,p50;79", kept(0, 1) + "slight 1 1", 0), 1);
    }

    private static void oddsOf(String text, String steps, int pail, int hits, int all) {
        GrudgeRennet x = in(text, steps);
        due.is("pail(" + pail + ", 5) in " + text + " " + steps, x.pail(pail, 5), hits);
        due.is("pail(" + pail + ", 6) in " + text + " " + steps, x.pail(pail, 6), all);
    }

    private static void odds() {
        due.says(TERMS, "by how many of all SLIGHTS (each by itself, now) it would SET, of how many.");
        oddsOf("p10,p10;99", "", 0, 0, 1);
        oddsOf("p10,p10,p10,p10;99", "", 0, 0, 1);
        oddsOf("p50,p50;29", "", 0, 1, 1);
        oddsOf("p50,p50,p50,p50;69", "", 0, 1, 3);
        oddsOf("p50,p10,p10,p10;69", "", 0, 1, 12);
        oddsOf("p50,p50,p50,p10;49", "", 0, 1, 2);
        oddsOf("p50,p50,p10,p10;29", "", 0, 1, 2);
        oddsOf("p50,p50,p10;49", "", 0, 4, 9);
        // By itself: two slights of 6 together are not counted.
        oddsOf("p50,p50;99", "", 0, 0, 1);
        oddsOf("p50,p50;99", "slight 0 1", 0, 2, 3);
    }

    private static void who() {
        due.says(TERMS, "by which SLIGHTS (as bits) just these would SET, all others not.");
        GrudgeRennet x = Due.in("p10,p10,p10,p10;99");
        due.is("who(0) by all twelve", x.who(0), 4095);
        due.is("who(1) by none", x.who(1), 0);
        due.is("who(3) by none", x.who(3), 0);
        x = Due.in("b95,b95,b95,b95;999999");
        Calls.run(x, "10 slight 0 1");
        due.is("who(63) by all twelve", x.who(63), 4095);
        due.is("who(62) by none", x.who(62), 0);
        due.is("who(0) by none", x.who(0), 0);
        x = Due.in("p50,p55;424");
        // 4 at 0 is 2 at 1: a chair sets just pails 0 and 1; a hem of 6 is 2 at 2, too little there.
        due.is("who(3)", x.who(3), 3);
        due.is("who(1), but 1 would set, too", x.who(1), 0);
        due.is("who(7)", x.who(7), 0);
    }

    private static void pridesBy(String kind, String steps, int prides, int best) {
        GrudgeRennet x = Due.in("p10," + kind + "50;12");
        Calls.run(x, steps);
        due.is("PRIDES of " + kind + " by " + steps, x.person(1, 7), prides);
        due.is("TRY of " + kind + " by " + steps, x.person(1, 8), best);
    }

    private static void seen() {
        due.says(TERMS, "SEEN (6 at most)");
        GrudgeRennet x = Due.in("p10,p10;12");
        for (int i = 1; i <= 6; i++) {
            due.is("see() no. " + i, x.see(0, 0, 0), i);
        }
        due.is("see() no. 7", x.see(0, 0, 0), -104);
        due.is("count(10)", x.count(10), 6);
        due.says(TERMS, "PRIDES (1 to 9) he can have, by his KIND, so that all that is SEEN of him is so: as bits");
        pridesBy("p", "", 511, 1);
        pridesBy("p", "see 1 0 0", 1, 0);
        pridesBy("p", "see 1 0 7", 256, 0);
        pridesBy("p", "see 1 0 8", 0, NONE);
        pridesBy("s", "see 1 0 0", 3, 1);
        pridesBy("s", "see 1 0 3", 128 + 256, 1);
        pridesBy("t", "see 1 1 21", 256, 0);
        pridesBy("t", "see 1 1 2", 1, 0);
        pridesBy("t", "see 1 1 1", 0, NONE);
        pridesBy("t", "see 1 1 22", 0, NONE);
        pridesBy("p", "see 1 1 1; see 1 1 2", 0, NONE);
        pridesBy("p", "see 0 1 99", 511, 1);
        // All six count, the last one too.
        pridesBy("p", "5 see 1 2 2; see 1 0 4", 16 + 32, 1);
        pridesBy("p", "see 1 0 4; 5 see 1 2 2", 16 + 32, 1);
        pridesBy("p", "6 see 1 0 4; see 1 1 6", 16 + 32, 1);
    }

    private static void tries() {
        due.says(TERMS,
            "so that fewest of these are left at worst, by how much it would grow, from none: of like ones the least;");
        // Chairs tell all prides of 1 to 9 apart but 5 and 6; hems tell all.
        pridesBy("p", "", 511, 1);
        // Of a saint's 1 to 4 chairs leave two (0 0 1 1), hems two (0 1 1 2): the least of the like ones.
        pridesBy("s", "see 1 2 0", 15, 0);
        // 5 to 9 of a saint: chairs 2 2 2 3 3 leave three, hems 3 3 4 4 5 two.
        pridesBy("s", "see 1 2 1", 496, 1);
        // 3 and 4: chairs 2 and 3 tell them apart, and so do hems.
        pridesBy("p", "see 1 2 1", 12, 0);
        due.says(TERMS, "none, if there are none.");
        pridesBy("p", "see 1 0 99", 0, NONE);
        due.says(TERMS, "from none, by a SLIGHT, of whom it is not known how proud he is.");
        GrudgeRennet x = Due.in("t90,p10;12");
        Calls.run(x, "5 slight 0 1; see 0 1 21");
        due.is("PRIDES at a grudge of 99", x.person(0, 7), 256);
        due.is("TRY at a grudge of 99", x.person(0, 8), 0);
    }

    private static void weeks() {
        due.says(TERMS, "its rest by 2 to the 31; then that by 65536 (rounded down), its rest.");
        GrudgeRennet x = Due.in("p50,p91,b32;42");
        due.is("the seed of 0", x.weeks(1, 0, 2), 1406932606);
        // 1103515245 * (2^31 - 1) + 12345 is, by 2^31, 12345 - 1103515245 + 2^31: 1043980748; then once more.
        long once = 2147483648L - 1103515245L + 12345L;
        long twice = (once * 1103515245L + 12345L) % 2147483648L;
        due.is("the seed of the greatest", x.weeks(1, Integer.MAX_VALUE, 2), twice);
        due.says(TERMS, "on each one by a DRAW of how many there are is SLIGHTED by a DRAW of 4 (3: by nothing);");
        boolean[] came = new boolean[12];
        for (int seed = 0; seed < 200; seed++) {
            came[slightOf(x, seed)] = true;
        }
        for (int way = 0; way < 12; way++) {
            due.is("a seed that came by " + way, came[way] ? 1 : 0, 1);
        }
        due.says(TERMS, "then it is counted what would SET (without any drops), then there is a NIGHT");
        x = Due.in("b90,b90;99");
        Calls.run(x, "10 slight 0 1; 10 slight 1 1; keep 0 0; keep 1 1; pour 0 0; pour 1 1");
        due.is("by drops alone, on a day of thanks or less", x.weeks(1, seedOfNothing(2), 0), 0);
        Calls.run(x, "10 slight 0 1; 10 slight 1 1");
        due.is("the most in the end", x.weeks(60, 7, 1), 198);
        due.is("all on each day", x.weeks(60, 7, 0), 120);
    }

    private static long next(long seed) {
        return (1103515245L * seed + 12345L) % 2147483648L;
    }

    /** Who is slighted on the first day and how, told by what is left of it after the night. */
    private static int slightOf(GrudgeRennet x, int seed) {
        int person = (int) (next(seed) / 65536 % 3);
        int how = (int) (next(next(seed)) / 65536 % 4);
        // Half of 4, 6, 2; half of 7, 10, 3; and a brooder's 2, 3, 1.
        int[][] left = {{2, 3, 1, 0}, {3, 5, 1, 0}, {2, 3, 1, 0}};
        due.is("weeks(1, " + seed + ", 1)", x.weeks(1, seed, 1), left[person][how]);
        return person * 4 + how;
    }

    private static int seedOfNothing(int people) {
        for (int seed = 0; seed < 1000; seed++) {
            if (next(next(seed)) / 65536 % 4 == 3 && next(seed) / 65536 % people == 0) {
                return seed;
            }
        }
        throw new IllegalStateException("there is such a seed");
    }

    private static void image() {
        due.says(TERMS, "An IMAGE keeps GRUDGES, PLACES, what is SET, BOTTLES, what is POURED, NIGHTS, SLIGHTS, "
            + "how much SET, SEEN.");
        String[] changes = {"slight 0 1", "soothe 1", "sit 0 5", "night", "curdle", "slight 0 1; fresh 0; curdle",
            "fresh 0", "keep 3 1", "pour 2 5", "curdle; pour 2 5", "see 0 2 2", "forget", "forget; see 1 2 2",
            "forget; see 0 2 2", "forget; see 0 0 3"};
        for (String change : changes) {
            GrudgeRennet x = Due.in("p50,b53;2929");
            Calls.run(x, "slight 0 1; curdle; slight 1 1; keep 2 0; slight 0 0; keep 1 0; pour 1 2; slight 0 1; "
                + "see 0 0 4; night; image");
            long was = x.digest();
            Calls.run(x, change);
            due.is(change + " changes something", x.digest() == was ? 0 : 1, 1);
            due.is("restore() behind " + change, x.restore(), 1);
            due.is("digest() behind " + change, x.digest(), was);
        }
    }

    private static void imageKeepsNoMore() {
        due.says(TERMS, "what is POURED, NIGHTS, SLIGHTS, how much SET, SEEN.");
        GrudgeRennet x = Due.in("p50,b53;2929");
        Calls.run(x, "image; write p50; few 1 0; 2 week 1 0; restore");
        due.is("letters", x.count(11), 3);
        due.is("few()", x.count(13), 1);
        due.is("week()", x.count(14), 2);
        due.is("valleys", x.count(12), 1);
    }
}
