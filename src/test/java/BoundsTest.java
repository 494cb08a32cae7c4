import java.math.BigInteger;

/** The bounds of each call, promise by promise: what is allowed to the last, empty and full, and how it goes on then. */
public final class BoundsTest {
    private static final int NONE = -1, UNKNOWN = -101, OUTSIDE = -102, STATE = -103, FULL = -104;
    private static final int MAX = Integer.MAX_VALUE;
    private static final int[] ROW_TELLS = {0, 10, 11, 12};
    private static final Sentences due = new Sentences();

    public static void main(String[] args) {
        newObject();
        letter();
        blank();
        fault();
        valley();
        valleyGone();
        valleySizes();
        person();
        as();
        pail();
        slight();
        soothe();
        sit();
        night();
        curdle();
        fresh();
        force();
        keep();
        pour();
        bottle();
        would();
        few();
        fewOften();
        week();
        weekOften();
        who();
        see();
        forget();
        weeks();
        image();
        restore();
        count();
        digest();
        manyCalls();
        due.end("BoundsTest");
    }

    private static GrudgeRennet in(String text, String steps) {
        GrudgeRennet x = Due.in(text);
        Calls.run(x, steps);
        return x;
    }

    private static boolean isRefusal(long answer) {
        return answer <= UNKNOWN;
    }

    private static void allowed(GrudgeRennet x, String call, int... with) {
        StringBuilder told = new StringBuilder(call);
        for (int number : with) {
            told.append(' ').append(number);
        }
        due.is(told + " is allowed", isRefusal(Calls.make(x, call, with)) ? 0 : 1, 1);
    }

    private static void newObject() {
        due.says(1, "`GrudgeRennet()`: No VALLEY.");
        GrudgeRennet x = new GrudgeRennet();
        for (int what = 0; what <= 14; what++) {
            due.is("count(" + what + ")", x.count(what), 0);
        }
        due.is("night()", x.night(), STATE);
        due.is("person(0, 0)", x.person(0, 0), UNKNOWN);
        due.is("pail(0, 0)", x.pail(0, 0), UNKNOWN);
        GrudgeRennet other = Due.in("p50,p50;99");
        due.is("another object's valley", other.count(0), 2);
        due.is("each object has its own", x.count(0), 0);
    }

    private static void letter() {
        due.says(2, "A letter comes behind THE PAGE, by its code: how many THE PAGE has.");
        for (int code = 1; code <= 126; code++) {
            GrudgeRennet x = new GrudgeRennet();
            due.is("letter(" + code + ")", x.letter(code), 1);
        }
        due.says(2, "FULL: above 24.");
        GrudgeRennet x = new GrudgeRennet();
        for (int i = 1; i <= 24; i++) {
            due.is("letter no. " + i, x.letter(126), i);
        }
        due.is("letter no. 25", x.letter(126), FULL);
        due.is("letter no. 26", x.letter(126), FULL);
        due.is("OUTSIDE ahead of FULL", x.letter(127), OUTSIDE);
        due.is("count(11)", x.count(11), 24);
        x.blank();
        due.is("an empty page has room", x.letter(1), 1);
        x = in("p10,s25,b34,t43;123456", "24 letter 112");
        due.is("a page behind a valley", x.count(11), 24);
        due.is("its letter no. 25", x.letter('p'), FULL);
    }

    private static void blank() {
        due.says(3, "THE PAGE is empty: how many letters it had.");
        GrudgeRennet x = new GrudgeRennet();
        due.is("of none", x.blank(), 0);
        x.letter(1);
        due.is("of one", x.blank(), 1);
        Calls.run(x, "24 letter 126");
        due.is("of a full page", x.blank(), 24);
        due.is("again", x.blank(), 0);
        due.is("count(11)", x.count(11), 0);
        due.is("fault()", x.fault(), 0);
        x = in("p50,p50;99", "slight 0 1; write p1");
        x.blank();
        due.is("the valley stays", x.person(0, 3), 6);
        due.is("letters that were are no part of it", x.valley(), STATE);
    }

    private static void faultIs(String text, int want) {
        GrudgeRennet x = new GrudgeRennet();
        Due.write(x, text);
        due.is("fault() of '" + text + "'", x.fault(), want);
        due.is("letters then", x.count(11), text.length());
    }

    private static void fault() {
        due.says(4, "The place (from 0) of the first letter of THE PAGE that no VALLEY has there, behind those ahead of it;");
        faultIs("x10,p10;99", 0);
        faultIs("xxxxxxxxxxxxxxxxxxxxxxxx", 0);
        faultIs("p10;99", 3);
        faultIs("p10,p10;9x9", 9);
        faultIs("p10,p10;990", 10);
        faultIs("p10,p10;999999;", 14);
        faultIs("p10,p10,p10,p10,p10;99", 15);
        faultIs("p10,p10,p10,p10;9999999", 22);
        faultIs("p10,p10,p10,p10;99999999", 22);
        faultIs("p10,p10,p10,p10;999999" + (char) 1 + (char) 126, 22);
        due.says(4, "how many letters it has, if there is none.");
        String longest = "p10,s25,b34,m45;123456";
        for (int size = 0; size <= longest.length(); size++) {
            faultIs(longest.substring(0, size), size);
        }
    }

    private static void valley() {
        due.says(5, "how many PAILS; THE PAGE is empty then.");
        String[] texts = {"p10,p10;12", "p10,p10;123456", "p10,p10,p10,p10;12", "p10,p10,p10,p10;123456"};
        int[] pails = {2, 6, 2, 6};
        for (int i = 0; i < 4; i++) {
            GrudgeRennet x = new GrudgeRennet();
            Due.write(x, texts[i]);
            due.is("valley() of " + texts[i], x.valley(), pails[i]);
            due.is("letters then", x.count(11), 0);
            due.is("valleys read", x.count(12), 1);
            due.is("valley() of the empty page", x.valley(), STATE);
        }
        due.says(5, "STATE: it is none.");
        // One letter less than the least, one more than the most; whatever is read so far is none yet.
        String[] none = {"", "p10,p10;1", "p10,p10,p10,p10;1234567", "p10,p10;", "p10,p10", "p10,", "p", "p10;12",
            "p10,p10,p10,p10,", "p10,p10,p10,p10,p10;12", ",p10,p10;12", "p10,,p10;12", "p10,p10;;12", "p10,p10;12;",
            "p10,p10;12 ", "P10,p10;12", "p10,p10:12", "p10.p10;12", "p1,p10;12", "p100,p10;12"};
        for (String text : none) {
            GrudgeRennet x = new GrudgeRennet();
            Due.write(x, text);
            due.is("valley() of '" + text + "'", x.valley(), STATE);
            due.is("letters stay", x.count(11), text.length());
            due.is("no valley was read", x.count(12), 0);
        }
    }

    private static void valleyGone() {
        due.says(5, "(another one is gone, with all that was)");
        GrudgeRennet x = Stage.BUSY.made();
        x.blank();
        int few = x.count(13);
        int week = x.count(14);
        Calls.run(x, "write p50,b53,s91;2929; valley");
        GrudgeRennet other = Due.in("p50,b53,s91;2929");
        for (int what = 0; what <= 11; what++) {
            due.is("count(" + what + ")", x.count(what), other.count(what));
        }
        for (int i = 0; i < 3; i++) {
            for (int what = 0; what <= 12; what++) {
                due.is("person(" + i + ", " + what + ")", x.person(i, what), other.person(i, what));
            }
        }
        for (int i = 0; i < 4; i++) {
            due.is("bottle(" + i + ")", x.bottle(i), 0);
            due.is("pail(" + i + ", 2)", x.pail(i, 2), 0);
        }
        for (int place = 0; place <= 5; place++) {
            due.is("force(" + place + ")", x.force(place), 0);
        }
        due.is("restore()", x.restore(), STATE);
        due.is("how often a valley was read", x.count(12), 2);
        // These tell how often a call was done, not what was in the valley.
        due.is("how often few() was done", x.count(13), few);
        due.is("how often week() was done", x.count(14), week);
    }

    private static void valleySizes() {
        due.says(5, "THE PAGE is read as THE VALLEY");
        GrudgeRennet x = in("t92,t92,t92,t92;111111", "slight 3 1; slight 2 1; write b10,s15;99; valley");
        due.is("the third one is gone", x.person(2, 0), UNKNOWN);
        due.is("the third pail is gone", x.pail(2, 0), UNKNOWN);
        due.is("its bit, too", x.few(4, 0), OUTSIDE);
        due.is("its bit, too, of who()", x.who(4), OUTSIDE);
        due.is("the last of two", x.few(3, 0), NONE);
        due.is("by all slights of two", x.who(0), 63);
        due.is("would() of two", x.would(), 0);
        due.is("force(2)", x.force(2), 0);
        due.is("all grudges", x.count(2), 0);
        due.is("odds of two", x.pail(0, 6), 1);
        Calls.run(x, "write t92,t92,t92,t92;111111; valley");
        due.is("the fourth one is there", x.person(3, 1), 9);
        due.is("the sixth pail is there", x.pail(5, 0), 1);
        due.is("a fourth one's slight", x.slight(3, 1), 21);
        due.is("would() of six", x.would(), 63);
    }

    private static void person() {
        due.says(6, "Of one: what = 0 KIND, 1 PRIDE, 2 PLACE, 3 GRUDGE");
        for (Stage stage : Stage.WITH_VALLEY) {
            GrudgeRennet x = stage.made();
            for (int what = 0; what <= 12; what++) {
                if (what != 9) {
                    allowed(x, "person", 0, what);
                    allowed(x, "person", stage.people - 1, what);
                }
            }
            due.is("person(0, 9)", x.person(0, 9), OUTSIDE);
        }
        due.says(6, "10 to 12 by how much the GRUDGE would grow by SLIGHT 0 to 2 (99 in all, at most).");
        GrudgeRennet x = in("t90,p10;12", "4 slight 0 1; 3 slight 0 2");
        // 93: a chair is worth 7, a hem 21, thanks 3.
        int[][] grows = {{6, 6, 3}, {3, 3, 3}, {0, 0, 0}};
        for (int[] row : grows) {
            for (int how = 0; how < 3; how++) {
                due.is("person(0, " + (10 + how) + ")", x.person(0, 10 + how), row[how]);
            }
            x.slight(0, 2);
        }
        due.says(6, "7 PRIDES, as bits, 8 TRY (NONE)");
        x = in("p10,p10;12", "see 0 1 11");
        due.is("of one that can have none", x.person(0, 7), 0);
        due.is("nothing to try", x.person(0, 8), NONE);
        due.is("of one that can have all", x.person(1, 7), 511);
        due.says(6, "4 how often he was SLIGHTED, 5 SEAT, 6 how many would SET by it");
        due.is("person(0, 4) at first", x.person(0, 4), 0);
        due.is("person(0, 5) at first", x.person(0, 5), 0);
        due.is("person(0, 6) at first", x.person(0, 6), 0);
    }

    private static void as() {
        due.says(7, "One taken as a KIND: his number; NONE: he is none such (the cast fails).");
        GrudgeRennet x = Due.in("m10,p10,b10,m10;12");
        due.is("as(0, 0)", x.as(0, 0), 0);
        due.is("as(0, 4)", x.as(0, 4), 0);
        due.is("as(0, 1)", x.as(0, 1), 0);
        due.is("as(0, 2)", x.as(0, 2), NONE);
        due.is("as(3, 0)", x.as(3, 0), 3);
        due.is("as(3, 4)", x.as(3, 4), 3);
        due.is("as(1, 4)", x.as(1, 4), NONE);
        due.is("as(1, 1)", x.as(1, 1), NONE);
        due.is("as(3, 5)", x.as(3, 5), OUTSIDE);
        due.is("as(3, -1)", x.as(3, -1), OUTSIDE);
        due.is("as(4, -1), UNKNOWN ahead", x.as(4, -1), UNKNOWN);
    }

    private static void pail() {
        due.says(8, "Of a PAIL: what = 0 what it WANTS, 1 the FORCE there");
        for (Stage stage : Stage.WITH_VALLEY) {
            GrudgeRennet x = stage.made();
            for (int what = 0; what <= 6; what++) {
                allowed(x, "pail", 0, what);
                allowed(x, "pail", stage.pails - 1, what);
            }
        }
        due.says(8, "2 whether it is SET (1, 0), 3 whether it would SET (1, 0)");
        GrudgeRennet x = in("p50,p50;69", "slight 0 0");
        due.is("too little", x.pail(0, 3), 0);
        x.slight(0, 2);
        due.is("just enough", x.pail(0, 3), 1);
        due.is("not set yet", x.pail(0, 2), 0);
        x.curdle();
        due.is("set", x.pail(0, 2), 1);
        due.is("the other one", x.pail(1, 2), 0);
        due.says(8, "4 POUR, as bits (NONE), 5 ODDS: by how many, 6 of how many, in lowest terms.");
        due.is("nothing to pour", x.pail(1, 4), NONE);
        due.is("nothing is needed", x.pail(0, 4), 0);
        due.is("by all, 1", x.pail(0, 5), 1);
        due.is("by all, of 1", x.pail(0, 6), 1);
        x.soothe(0);
        due.is("by none, 0", x.pail(1, 5), 0);
        due.is("by none, of 1", x.pail(1, 6), 1);
        due.is("by two of six, 1", x.pail(0, 5), 1);
        due.is("by two of six, of 3", x.pail(0, 6), 3);
    }

    private static void slight() {
        due.says(9, "A SLIGHT: how great the GRUDGE is then.");
        GrudgeRennet x = Due.in("p10,p10,p10,t90;12");
        due.is("slight(0, 0) that is worth nothing", x.slight(0, 0), 0);
        due.is("it is counted", x.person(0, 4), 1);
        due.is("slight(0, 2)", x.slight(0, 2), 0);
        due.is("slight(0, 1)", x.slight(0, 1), 1);
        due.is("slight(3, 0)", x.slight(3, 0), 7);
        due.is("slight(3, 2)", x.slight(3, 2), 10);
        due.is("slight(3, 1)", x.slight(3, 1), 31);
        Calls.run(x, "3 slight 3 1");
        due.is("up to 99", x.slight(3, 1), 99);
        due.is("99 at most", x.slight(3, 1), 99);
        due.is("others have none by it", x.person(2, 3), 0);
        due.is("count(8)", x.count(8), 11);
        due.says(9, "UNKNOWN: person; OUTSIDE: how (0 to 2).");
        due.is("slight(4, 3)", x.slight(4, 3), UNKNOWN);
        due.is("slight(3, 3)", x.slight(3, 3), OUTSIDE);
        due.is("slight(3, -1)", x.slight(3, -1), OUTSIDE);
        due.is("count(8) then", x.count(8), 11);
    }

    private static void soothe() {
        due.says(10, "One is asked to forgive: how great the GRUDGE was (it is 0 then).");
        GrudgeRennet x = in("p10,p10,p10,t90;12", "5 slight 3 1; slight 0 1");
        due.is("of 99", x.soothe(3), 99);
        due.is("of none", x.soothe(3), 0);
        due.is("of 1", x.soothe(0), 1);
        due.is("of one that was not slighted", x.soothe(1), 0);
        due.is("count(2)", x.count(2), 0);
        due.is("slights stay", x.count(8), 6);
        due.is("soothe(4)", x.soothe(4), UNKNOWN);
    }

    private static void sit() {
        due.says(11, "One sits at a PLACE: at which he did.");
        GrudgeRennet x = Due.in("p10,p10,p10,t95;12");
        due.is("sit(3, 0)", x.sit(3, 0), 5);
        due.is("sit(3, 0) again", x.sit(3, 0), 0);
        due.is("sit(3, 5), where no pail is", x.sit(3, 5), 0);
        due.is("sit(0, 5)", x.sit(0, 5), 0);
        due.is("others sit where they did", x.person(1, 2), 0);
        due.says(11, "UNKNOWN: person, place (0 to 5).");
        due.is("sit(3, 6)", x.sit(3, 6), UNKNOWN);
        due.is("sit(3, -1)", x.sit(3, -1), UNKNOWN);
        due.is("sit(4, 5)", x.sit(4, 5), UNKNOWN);
        due.is("he sits where he did", x.person(3, 2), 5);
    }

    private static void night() {
        due.says(12, "A NIGHT: how many there were.");
        GrudgeRennet x = in("p50,b50;12", "image");
        for (int i = 1; i <= 99; i++) {
            due.is("night no. " + i, x.night(), i);
        }
        due.says(12, "FULL: 99 were.");
        x.slight(0, 1);
        due.is("night no. 100", x.night(), FULL);
        due.is("the grudge stays", x.person(0, 3), 6);
        due.is("count(7)", x.count(7), 99);
        x.restore();
        due.is("nights go on from the image", x.night(), 1);
        Calls.run(x, "98 night");
        due.is("full again", x.night(), FULL);
        Calls.run(x, "write p50,b50;12; valley");
        due.is("another valley's first", x.night(), 1);
    }

    private static void curdle() {
        due.says(13, "It is time to CURDLE: in how many PAILS milk SETS.");
        GrudgeRennet x = Due.in("t92,p10;123456");
        due.is("in none", x.curdle(), 0);
        Calls.run(x, "slight 0 1");
        due.is("in all six", x.curdle(), 6);
        due.is("none is fresh", x.curdle(), 0);
        x.fresh(5);
        x.fresh(0);
        due.is("in the first and the last", x.curdle(), 2);
        due.is("how often milk set", x.count(9), 8);
        due.is("that are set", x.count(3), 6);
    }

    private static void fresh() {
        due.says(14, "Milk in a PAIL is fresh again: whether it was SET (1, 0).");
        GrudgeRennet x = in("t92,p10;123456", "slight 0 1");
        due.is("not set yet", x.fresh(5), 0);
        x.curdle();
        for (int i = 0; i < 6; i++) {
            due.is("fresh(" + i + ")", x.fresh(i), 1);
            due.is("fresh(" + i + ") again", x.fresh(i), 0);
            due.is("that are set", x.count(3), 5 - i);
        }
        due.is("fresh(6)", x.fresh(6), UNKNOWN);
        due.is("fresh(-1)", x.fresh(-1), UNKNOWN);
        due.is("how often milk set", x.count(9), 6);
        due.is("all set again", x.curdle(), 6);
    }

    private static void force() {
        due.says(15, "The FORCE at a PLACE. UNKNOWN: place (0 to 5;");
        GrudgeRennet x = in("p50,p55;12", "slight 0 1; slight 1 0");
        due.is("force(0)", x.force(0), 6);
        due.is("force(5), where no pail is", x.force(5), 4);
        due.is("force(6)", x.force(6), UNKNOWN);
        due.is("force(-1)", x.force(-1), UNKNOWN);
        due.says(15, "also without a VALLEY).");
        due.is("force(0) of a new object", new GrudgeRennet().force(0), UNKNOWN);
        due.is("force(5) of a new object", new GrudgeRennet().force(5), UNKNOWN);
    }

    private static void keep() {
        due.says(16, "One's GRUDGE is KEPT in a BOTTLE: how much.");
        GrudgeRennet x = in("p30,p10,p10,t90;12", "slight 0 2; 5 slight 3 1");
        due.is("keep(0, 0) of 1", x.keep(0, 0), 1);
        due.is("keep(3, 3) of 99", x.keep(3, 3), 99);
        due.is("bottle(0)", x.bottle(0), 1);
        due.is("bottle(3)", x.bottle(3), 99);
        due.says(16, "STATE: it is not empty, or he has none.");
        due.is("both", x.keep(0, 0), STATE);
        due.is("he has none", x.keep(1, 0), STATE);
        x.slight(0, 2);
        due.is("there is 1 in it", x.keep(0, 0), STATE);
        due.is("it is not empty", x.keep(3, 0), STATE);
        due.is("it stays", x.bottle(3), 99);
        due.is("his stays", x.person(0, 3), 1);
        x.pour(3, 0);
        due.is("empty again", x.keep(3, 0), 1);
        due.is("keep(4, 4)", x.keep(4, 4), UNKNOWN);
        due.is("UNKNOWN ahead of STATE", x.keep(3, 4), UNKNOWN);
    }

    private static void pour() {
        due.says(17, "A BOTTLE is POURED at a PLACE: how much was in it.");
        String four = "slight 0 1; keep 0 0; slight 0 1; keep 1 0; slight 0 1; keep 2 0; slight 0 0; keep 3 0";
        GrudgeRennet x = in("p50,p50;12", four);
        due.is("pour(0, 0)", x.pour(0, 0), 6);
        due.is("pour(1, 5)", x.pour(1, 5), 6);
        due.is("pour(2, 5) at the same place", x.pour(2, 5), 6);
        due.is("three are poured", x.count(6), 3);
        due.is("a fourth", x.pour(3, 0), 4);
        due.is("force(0)", x.force(0), 10);
        due.is("force(5)", x.force(5), 12);
        due.says(17, "FULL: four are POURED.");
        Calls.run(x, four);
        for (int bottle = 0; bottle <= 3; bottle++) {
            due.is("a fifth", x.pour(bottle, 0), FULL);
        }
        due.is("bottles stay", x.count(5), 4);
        due.is("UNKNOWN ahead of FULL", x.pour(0, 6), UNKNOWN);
        x.curdle();
        due.is("room behind curdle()", x.pour(3, 5), 4);
        due.is("STATE ahead of FULL", in("p50,p50;12", four + "; pour 0 0; pour 1 0; pour 2 0; pour 3 0").pour(0, 0), STATE);
        x = in("p50,p50;12", four + "; image; pour 0 0; pour 1 0; pour 2 0; pour 3 0; slight 0 1; keep 0 0; restore");
        due.is("room behind restore()", x.pour(0, 0), 6);
        due.is("one is poured", x.count(6), 1);
    }

    private static void bottle() {
        due.says(18, "How much is in a BOTTLE. UNKNOWN.");
        GrudgeRennet x = in("t90,p50;12", "slight 0 2; keep 0 0; 5 slight 0 1; keep 3 0");
        due.is("bottle(0)", x.bottle(0), 3);
        due.is("bottle(1)", x.bottle(1), 0);
        due.is("bottle(2)", x.bottle(2), 0);
        due.is("bottle(3)", x.bottle(3), 99);
        due.is("bottle(4)", x.bottle(4), UNKNOWN);
        due.is("bottle(-1)", x.bottle(-1), UNKNOWN);
        due.is("bottle(0) of a new object", new GrudgeRennet().bottle(0), UNKNOWN);
    }

    private static void would() {
        due.says(19, "Which PAILS would SET, as bits. STATE: no VALLEY.");
        GrudgeRennet x = Due.in("t92,p10;123456");
        due.is("none", x.would(), 0);
        Calls.run(x, "slight 0 1");
        due.is("all six", x.would(), 63);
        x = in("p50,p55;999994", "slight 1 0");
        due.is("the last", x.would(), 32);
        x = in("p50,p55;499999", "slight 0 0");
        due.is("the first", x.would(), 1);
        due.is("of a new object", new GrudgeRennet().would(), STATE);
    }

    private static void few() {
        due.says(20, "what = 0 how few, 10 to 12 the so-manieth SLIGHT (NONE: there is none such);");
        GrudgeRennet x = Due.in("p30,p35;932999");
        int[][] want = {{0, NONE, NONE, NONE}, {1, 1, NONE, NONE}, {2, 1, 1, NONE}, {3, 1, 1, 1}};
        // Hems are worth 3 to the first one: 0 of them for 9 of 9, then more.
        for (int lacking = 3; lacking >= 0; lacking--) {
            for (int i = 0; i < 4; i++) {
                due.is("few(1, " + ROW_TELLS[i] + ") at " + x.person(0, 3), x.few(1, ROW_TELLS[i]), want[lacking][i]);
            }
            x.slight(0, 1);
        }
        due.says(20, "NONE: there are none.");
        x = Due.in("p20,p20;799999");
        for (int what : ROW_TELLS) {
            due.is("few(1, " + what + ")", x.few(1, what), NONE);
            due.is("few(63, " + what + ")", x.few(63, what), NONE);
        }
        due.says(20, "OUTSIDE: pails (bits, one at least;");
        due.is("few(0, 0)", x.few(0, 0), OUTSIDE);
        due.is("few(64, 0)", x.few(64, 0), OUTSIDE);
        due.is("few(-1, 0)", x.few(-1, 0), OUTSIDE);
        x = Due.in("p20,p20;79");
        allowed(x, "few", 3, 0);
        due.is("few(4, 0) of two", x.few(4, 0), OUTSIDE);
    }

    private static void fewOften() {
        due.says(20, "STATE: few() was done 30 times.");
        GrudgeRennet x = Due.in("p50,p50;69");
        Calls.run(x, "5 few 0 0; 5 few 1 13; 5 few 4 0; image");
        due.is("refused ones are not done", x.count(13), 0);
        for (int i = 1; i <= 30; i++) {
            due.is("few() no. " + i, x.few(i % 2 + 1, 0), i % 2 == 0 ? 1 : 2);
            due.is("count(13)", x.count(13), i);
        }
        due.is("few() no. 31", x.few(1, 0), STATE);
        due.is("OUTSIDE ahead of STATE: pails", x.few(0, 0), OUTSIDE);
        due.is("OUTSIDE ahead of STATE: what", x.few(1, 9), OUTSIDE);
        due.is("count(13) then", x.count(13), 30);
        x.restore();
        due.is("few() behind restore()", x.few(1, 0), STATE);
        Calls.run(x, "write p50,p50;69; valley");
        due.is("few() in another valley", x.few(1, 0), STATE);
        due.is("week() has its own count", x.week(1, 0), 1);
    }

    private static void week() {
        due.says(21, "what = 0 how many, 10 to 12 the SLIGHT of the so-manieth DAY (NONE: none).");
        GrudgeRennet x = Due.in("p50,p50;49");
        int[][] want = {{1, 0, NONE, NONE}, {2, 0, 0, NONE}, {3, 0, 0, 0}};
        for (int days = 1; days <= 3; days++) {
            for (int i = 0; i < 4; i++) {
                due.is("week(" + days + ", " + ROW_TELLS[i] + ")", x.week(days, ROW_TELLS[i]), want[days - 1][i]);
            }
        }
        x = Due.in("p10,p10;99");
        for (int what : ROW_TELLS) {
            due.is("of nothing, week(3, " + what + ")", x.week(3, what), what == 0 ? 0 : NONE);
        }
        due.says(21, "OUTSIDE: days (1 to 3), what;");
        due.is("week(0, 0)", x.week(0, 0), OUTSIDE);
        due.is("week(4, 0)", x.week(4, 0), OUTSIDE);
        due.is("week(1, 13)", x.week(1, 13), OUTSIDE);
        due.is("week(1, 9)", x.week(1, 9), OUTSIDE);
        due.is("week(1, 1)", x.week(1, 1), OUTSIDE);
        due.is("OUTSIDE ahead of STATE", new GrudgeRennet().week(4, 0), OUTSIDE);
        due.is("no valley", new GrudgeRennet().week(3, 0), STATE);
    }

    private static void weekOften() {
        due.says(21, "STATE: no VALLEY, or week() was done 20 times.");
        GrudgeRennet x = Due.in("p50,p50;49");
        Calls.run(x, "5 week 0 0; 5 week 4 0; 5 week 1 13; image");
        due.is("refused ones are not done", x.count(14), 0);
        for (int i = 1; i <= 20; i++) {
            due.is("week() no. " + i, x.week(i % 3 + 1, 0), i % 3 + 1);
            due.is("count(14)", x.count(14), i);
        }
        due.is("week() no. 21", x.week(1, 0), STATE);
        due.is("OUTSIDE ahead of STATE: days", x.week(4, 0), OUTSIDE);
        due.is("OUTSIDE ahead of STATE: what", x.week(1, 9), OUTSIDE);
        due.is("count(14) then", x.count(14), 20);
        x.restore();
        due.is("week() behind restore()", x.week(1, 0), STATE);
        Calls.run(x, "write p50,p50;49; valley");
        due.is("week() in another valley", x.week(1, 0), STATE);
        due.is("few() has its own count", x.few(1, 0), 1);
    }

    private static void who() {
        due.says(22, "WHO, as bits. OUTSIDE: pails (bits; none: 0);");
        GrudgeRennet x = Due.in("p10,p10,p10,t92;699999");
        // By a hem of 21 at 2: 17, 19, 21, 19, 17, 15; by a chair of 7: 3, 5, 7, 5, 3, 1.
        due.is("who(0)", x.who(0), 4095 - (1 << 10));
        due.is("who(63)", x.who(63), 1 << 10);
        due.is("who(64)", x.who(64), OUTSIDE);
        due.is("who(-1)", x.who(-1), OUTSIDE);
        x = Due.in("p10,p10;19");
        // Just hems are worth 1 there.
        due.is("who(0) of two", x.who(0), 63 - 2 - 16);
        due.is("who(1) of two", x.who(1), 2 + 16);
        due.is("who(3) of two", x.who(3), 0);
        due.is("who(4) of two", x.who(4), OUTSIDE);
        due.says(22, "STATE: no VALLEY.");
        due.is("who(0) of a new object", new GrudgeRennet().who(0), STATE);
        due.is("OUTSIDE ahead of STATE", new GrudgeRennet().who(1), OUTSIDE);
        due.is("OUTSIDE ahead of STATE", new GrudgeRennet().who(-1), OUTSIDE);
    }

    private static void see() {
        due.says(23, "It is SEEN: how much is. UNKNOWN: person; OUTSIDE: how (0 to 2), by (0 to 99); FULL.");
        GrudgeRennet x = Due.in("p10,p10,p10,t90;12");
        due.is("see(0, 0, 0)", x.see(0, 0, 0), 1);
        due.is("see(3, 2, 99)", x.see(3, 2, 99), 2);
        due.is("see(3, 3, 99)", x.see(3, 3, 99), OUTSIDE);
        due.is("see(3, -1, 99)", x.see(3, -1, 99), OUTSIDE);
        due.is("see(3, 2, 100)", x.see(3, 2, 100), OUTSIDE);
        due.is("see(0, 0, -1)", x.see(0, 0, -1), OUTSIDE);
        due.is("see(4, 3, 100)", x.see(4, 3, 100), UNKNOWN);
        due.is("see(1, 1, 1)", x.see(1, 1, 1), 3);
        due.is("see(1, 1, 1), the same again", x.see(1, 1, 1), 4);
        due.is("see(2, 0, 7)", x.see(2, 0, 7), 5);
        due.is("a sixth", x.see(2, 0, 7), 6);
        due.is("a seventh", x.see(2, 0, 6), FULL);
        due.is("the seventh is not seen", x.person(2, 7), 256);
        due.is("OUTSIDE ahead of FULL", x.see(2, 0, 100), OUTSIDE);
        due.is("UNKNOWN ahead of FULL", x.see(4, 0, 0), UNKNOWN);
        x.forget();
        due.is("room behind forget()", x.see(2, 0, 6), 1);
    }

    private static void forget() {
        due.says(24, "Nothing is SEEN any more: how much was.");
        due.is("of a new object", new GrudgeRennet().forget(), 0);
        GrudgeRennet x = Due.in("p10,p10;12");
        due.is("of none", x.forget(), 0);
        x.see(0, 0, 99);
        due.is("of one", x.forget(), 1);
        Calls.run(x, "7 see 0 0 99; image");
        due.is("of six", x.forget(), 6);
        due.is("again", x.forget(), 0);
        due.is("all prides", x.person(0, 7), 511);
        x.restore();
        due.is("the image has them", x.forget(), 6);
    }

    private static void weeks() {
        due.says(25, "WEEKS: what = 0 how many, 1 all GRUDGES, 2 the SEED then.");
        GrudgeRennet x = in("b90,b91,b94,b95;999999", "10 slight 0 1; 10 slight 1 1; 10 slight 2 1; 10 slight 3 1");
        due.is("weeks(1, 0, 0)", x.weeks(1, 0, 0), 6);
        due.is("weeks(60, MAX, 0), the most", x.weeks(60, MAX, 0), 360);
        due.is("weeks(60, MAX, 1), the most", x.weeks(60, MAX, 1), 396);
        long seed = MAX;
        for (int i = 0; i < 120; i++) {
            seed = BigInteger.valueOf(seed).multiply(BigInteger.valueOf(1103515245)).add(BigInteger.valueOf(12345))
                .mod(BigInteger.valueOf(2).pow(31)).longValue();
        }
        due.is("weeks(60, MAX, 2)", x.weeks(60, MAX, 2), seed);
        due.says(25, "OUTSIDE: days (1 to 60), seed (0 at least), what; STATE: no VALLEY.");
        due.is("weeks(0, 0, 0)", x.weeks(0, 0, 0), OUTSIDE);
        due.is("weeks(61, 0, 0)", x.weeks(61, 0, 0), OUTSIDE);
        due.is("weeks(60, -1, 0)", x.weeks(60, -1, 0), OUTSIDE);
        due.is("weeks(1, 0, 3)", x.weeks(1, 0, 3), OUTSIDE);
        due.is("weeks(1, 0, -1)", x.weeks(1, 0, -1), OUTSIDE);
        due.is("OUTSIDE ahead of STATE", new GrudgeRennet().weeks(61, 0, 0), OUTSIDE);
        due.is("no valley", new GrudgeRennet().weeks(60, 0, 0), STATE);
        // Nobody has any, and thanks and chairs of pride 1 are worth nothing.
        x = Due.in("p10,p10;99");
        due.is("none in all", x.weeks(60, 1, 0), 0);
        x = Due.in("s10,m10;19");
        due.is("no grudge at all", x.weeks(60, 1, 1), 0);
    }

    private static void image() {
        due.says(26, "An IMAGE is kept (one; the latest): how many NIGHTS there were.");
        GrudgeRennet x = Due.in("p50,b50;12");
        due.is("image() without a night", x.image(), 0);
        Calls.run(x, "slight 0 1; 99 night; slight 0 1");
        due.is("image() of 99 nights", x.image(), 99);
        Calls.run(x, "soothe 0");
        due.is("the latest", x.restore(), 99);
        due.is("its grudge", x.person(0, 3), 6);
        due.is("its nights are full", x.night(), FULL);
        due.is("of a new object", new GrudgeRennet().image(), STATE);
        due.is("of letters that are no valley yet", Stage.PAGE.made().image(), STATE);
    }

    private static void restore() {
        due.says(27, "It goes on from the IMAGE: how many NIGHTS there were.");
        GrudgeRennet x = in("p50,b50;12", "night; image; slight 0 1; night");
        due.is("restore()", x.restore(), 1);
        x.slight(0, 1);
        due.is("restore() once more", x.restore(), 1);
        due.is("the image is as it was", x.person(0, 3), 0);
        due.says(27, "STATE: none was kept,");
        due.is("of a new object", new GrudgeRennet().restore(), STATE);
        due.is("of a valley", Due.in("p50,b50;12").restore(), STATE);
        due.says(27, "or there is another VALLEY since.");
        Calls.run(x, "write p50; valley");
        due.is("a page that is none changes nothing", x.restore(), 1);
        Calls.run(x, "blank; write p50,b50;12; valley");
        due.is("another one of the same text", x.restore(), STATE);
        due.is("image() of it", x.image(), 0);
        due.is("restore() of it", x.restore(), 0);
    }

    private static void count() {
        due.says(28, "How many: 0 PEOPLE, 1 PAILS, 2 all GRUDGES together");
        GrudgeRennet x = new GrudgeRennet();
        for (int what = 0; what <= 14; what++) {
            due.is("count(" + what + ") of a new object", x.count(what), 0);
        }
        x = Stage.ALL_FULL.made();
        // Of the brooder 99, of hems 30, of a chair 3; the brooder sets all pails, and so do the drops.
        int[] want = {4, 6, 132, 0, 6, 4, 4, 99, 22, 0, 6, 24, 1, 30, 20};
        for (int what = 0; what <= 14; what++) {
            due.is("count(" + what + ") where all is full", x.count(what), want[what]);
        }
        x.curdle();
        due.is("pails that are set", x.count(3), 6);
        due.is("how often milk set", x.count(9), 6);
        due.is("drops", x.count(6), 0);
        x = in("t90,t90,t90,t90;12", "5 slight 0 1; 5 slight 1 1; 5 slight 2 1; 5 slight 3 1");
        due.is("the most grudges", x.count(2), 396);
        due.says(28, "12 how often a VALLEY was read, 13 how often few() was done, 14 week(). OUTSIDE.");
        due.is("count(15)", x.count(15), OUTSIDE);
        due.is("count(-1)", x.count(-1), OUTSIDE);
        for (int i = 2; i <= 9; i++) {
            Calls.run(x, "write p50,b50;12; valley");
            due.is("count(12)", x.count(12), i);
        }
    }

    private static void digest() {
        for (Stage stage : new Stage[] {Stage.NEW, Stage.PAGE, Stage.FULL_PAGE, Stage.PLAIN, Stage.ALL_FULL}) {
            due.says(29, "h is 1123, then for each of these numbers, in order, 31 times h, and it (as longs, wrapping)");
            GrudgeRennet x = stage.made();
            String page = stage == Stage.PAGE ? "p50,b53;2x" : "pppppppppppppppppppppppp".substring(0, x.count(11));
            due.is("digest() in " + stage.name, x.digest(), wrapped(x, page));
        }
        due.says(29, "letters of THE PAGE;");
        GrudgeRennet x = new GrudgeRennet();
        Calls.run(x, "letter 1; letter 126");
        due.is("of the least and the greatest code", x.digest(), wrapped(x, "" + (char) 1 + (char) 126));
    }

    /** By numbers without bounds, wrapped once at the end. */
    private static long wrapped(GrudgeRennet x, String page) {
        StringBuilder calls = new StringBuilder();
        for (int i = 0; i < x.count(0); i++) {
            for (int what = 0; what <= 12; what++) {
                calls.append(what == 9 ? "" : "person " + i + " " + what + ";");
            }
        }
        for (int i = 0; i < x.count(1); i++) {
            for (int what = 0; what <= 6; what++) {
                calls.append("pail " + i + " " + what + ";");
            }
        }
        if (x.count(0) > 0) {
            calls.append("force 0;force 1;force 2;force 3;force 4;force 5;bottle 0;bottle 1;bottle 2;bottle 3;");
            calls.append("who " + x.would() + ";");
        }
        for (char letter : page.toCharArray()) {
            calls.append((int) letter).append(';');
        }
        for (int what = 0; what <= 14; what++) {
            calls.append("count " + what + ";");
        }
        BigInteger h = BigInteger.valueOf(1123);
        for (String call : calls.toString().split(";")) {
            h = h.multiply(BigInteger.valueOf(31)).add(BigInteger.valueOf(answer(x, call)));
        }
        return h.longValue();
    }

    private static long answer(GrudgeRennet x, String call) {
        String[] words = call.split(" ");
        if (words.length == 1) {
            return Long.parseLong(call);
        }
        int[] with = new int[words.length - 1];
        for (int i = 0; i < with.length; i++) {
            with[i] = Integer.parseInt(words[i + 1]);
        }
        return Calls.make(x, words[0], with);
    }

    private static void manyCalls() {
        due.says(28, "8 SLIGHTS, 9 how often milk SET");
        GrudgeRennet x = Due.in("t90,p50;12");
        // 11 calls so far: up to the 512th all is as promised.
        for (int i = 1; i <= 499; i++) {
            due.is("slight no. " + i, x.slight(0, 1), Math.min(99, 21 * i));
        }
        due.is("count(8)", x.count(8), 499);
        due.is("person(0, 4)", x.person(0, 4), 499);
    }
}
