/** Each promise by answers worked out by hand from the document. */
public final class PromiseTest {
    private static final int NONE = -1, UNKNOWN = -101, OUTSIDE = -102, STATE = -103, FULL = -104;
    private static final int MIN = Integer.MIN_VALUE, MAX = Integer.MAX_VALUE;
    private static final Due due = new Due();

    public static void main(String[] args) {
        constants();
        newObject();
        letter();
        blank();
        fault();
        valley();
        valleyClearsAll();
        personPlain();
        personGrowth();
        personSeat();
        personPrides();
        as();
        pailPlain();
        pailPour();
        pailOdds();
        slight();
        soothe();
        sit();
        night();
        curdle();
        fresh();
        force();
        keep();
        pour();
        bottle();
        would();
        few();
        fewLimits();
        week();
        weekLimits();
        who();
        see();
        forget();
        weeks();
        image();
        restore();
        count();
        digest();
        due.end("PromiseTest");
    }

    private static void constants() {
        due.is(1, "NONE", GrudgeRennet.NONE, NONE);
        due.is(1, "UNKNOWN", GrudgeRennet.UNKNOWN, UNKNOWN);
        due.is(1, "OUTSIDE", GrudgeRennet.OUTSIDE, OUTSIDE);
        due.is(1, "STATE", GrudgeRennet.STATE, STATE);
        due.is(1, "FULL", GrudgeRennet.FULL, FULL);
    }

    private static void newObject() {
        GrudgeRennet x = new GrudgeRennet();
        for (int what = 0; what <= 14; what++) {
            due.is(1, "count(" + what + ") of a new one", x.count(what), 0);
        }
        due.is(1, "valley()", x.valley(), STATE);
        due.is(1, "person(0, 0)", x.person(0, 0), UNKNOWN);
        due.is(1, "as(0, 9)", x.as(0, 9), UNKNOWN);
        due.is(1, "pail(0, 0)", x.pail(0, 0), UNKNOWN);
        due.is(1, "slight(0, 9)", x.slight(0, 9), UNKNOWN);
        due.is(1, "soothe(0)", x.soothe(0), UNKNOWN);
        due.is(1, "sit(0, 0)", x.sit(0, 0), UNKNOWN);
        due.is(1, "night()", x.night(), STATE);
        due.is(1, "curdle()", x.curdle(), STATE);
        due.is(1, "fresh(0)", x.fresh(0), UNKNOWN);
        due.is(1, "force(0)", x.force(0), UNKNOWN);
        due.is(1, "keep(0, 0)", x.keep(0, 0), UNKNOWN);
        due.is(1, "pour(0, 0)", x.pour(0, 0), UNKNOWN);
        due.is(1, "bottle(0)", x.bottle(0), UNKNOWN);
        due.is(1, "would()", x.would(), STATE);
        due.is(1, "few(1, 0)", x.few(1, 0), OUTSIDE);
        due.is(1, "few(0, 0)", x.few(0, 0), OUTSIDE);
        due.is(1, "week(1, 0)", x.week(1, 0), STATE);
        due.is(1, "week(0, 0)", x.week(0, 0), OUTSIDE);
        due.is(1, "week(1, 9)", x.week(1, 9), OUTSIDE);
        due.is(1, "who(0)", x.who(0), STATE);
        due.is(1, "who(1)", x.who(1), OUTSIDE);
        due.is(1, "see(0, 0, 0)", x.see(0, 0, 0), UNKNOWN);
        due.is(1, "forget()", x.forget(), 0);
        due.is(1, "weeks(1, 0, 0)", x.weeks(1, 0, 0), STATE);
        due.is(1, "weeks(0, 0, 0)", x.weeks(0, 0, 0), OUTSIDE);
        due.is(1, "image()", x.image(), STATE);
        due.is(1, "restore()", x.restore(), STATE);
        due.is(1, "fault()", x.fault(), 0);
        due.is(1, "blank()", x.blank(), 0);
        long h = 1123;
        for (int i = 0; i < 15; i++) {
            h *= 31;
        }
        due.is(29, "digest() of a new one", x.digest(), h);
        due.is(1, "toString() ends", x.toString() == null ? 1 : 0, 0);
    }

    private static void letter() {
        GrudgeRennet x = new GrudgeRennet();
        int[] refused = {0, -1, 127, 128, MIN, MAX};
        for (int code : refused) {
            due.is(2, "letter(" + code + ")", x.letter(code), OUTSIDE);
        }
        due.is(2, "letter(1)", x.letter(1), 1);
        due.is(2, "letter(126)", x.letter(126), 2);
        for (int i = 3; i <= 24; i++) {
            due.is(2, "letter no. " + i, x.letter(65), i);
        }
        due.is(2, "letter no. 25", x.letter(65), FULL);
        due.is(2, "letter(0) on a full page", x.letter(0), OUTSIDE);
        due.is(2, "count(11)", x.count(11), 24);
    }

    private static void blank() {
        GrudgeRennet x = new GrudgeRennet();
        Due.write(x, "p10,");
        due.is(3, "blank()", x.blank(), 4);
        due.is(3, "blank() again", x.blank(), 0);
        due.is(3, "letter() then", x.letter('p'), 1);
        for (int i = 0; i < 30; i++) {
            x.letter('p');
        }
        due.is(3, "blank() of a full page", x.blank(), 24);
        due.is(3, "letter() behind it", x.letter('p'), 1);
    }

    private static void faultOf(String text, int want) {
        GrudgeRennet x = new GrudgeRennet();
        Due.write(x, text);
        due.is(4, "fault() of \"" + text + "\"", x.fault(), want);
        due.is(4, "fault() again", x.fault(), want);
        due.is(4, "letters then", x.count(11), text.length());
    }

    private static void fault() {
        faultOf("", 0);
        faultOf("x", 0);
        faultOf("P10", 0);
        faultOf(";", 0);
        faultOf(",p10", 0);
        faultOf("p", 1);
        faultOf("s1", 2);
        faultOf("b95", 3);
        faultOf("t0", 1);
        faultOf("pp", 1);
        faultOf("m16", 2);
        faultOf("m1/", 2);
        faultOf("p10;", 3);
        faultOf("p10p", 3);
        faultOf("p10,", 4);
        faultOf("p10,,", 4);
        faultOf("p10,;", 4);
        faultOf("p10,p15,", 8);
        faultOf("p10,p15;", 8);
        faultOf("p10,p15;0", 8);
        faultOf("p10,p15;;", 8);
        faultOf("p10,p15;p", 8);
        faultOf("p10,p15;1", 9);
        faultOf("p10,p15;19", 10);
        faultOf("p10,p15;1,", 9);
        faultOf("p10,p15;12;", 10);
        faultOf("p10,p15;123456", 14);
        faultOf("p10,p15;1234567", 14);
        faultOf("p10,p15;120456", 10);
        faultOf("p10,p15,p10;12", 14);
        faultOf("p10,p15,p10,p10,", 15);
        faultOf("p10,p15,p10,p10;", 16);
        faultOf("p10,s15,b20,m35;123456", 22);
        faultOf("p10,s15,b20,m35;1234567", 22);
        faultOf("p:0", 1);
        faultOf("p1:", 2);
        faultOf("p10,p15;:", 8);
        faultOf("p10,p15;/", 8);
        faultOf("q10,p15;9", 0);
        faultOf("p10,q15;9;", 4);
    }

    private static void noValley(String text) {
        GrudgeRennet x = new GrudgeRennet();
        Due.write(x, text);
        due.is(5, "valley() of \"" + text + "\"", x.valley(), STATE);
        due.is(5, "letters then", x.count(11), text.length());
        due.is(5, "valleys read", x.count(12), 0);
        due.is(5, "people", x.count(0), 0);
    }

    private static void valley() {
        noValley("");
        noValley("p10");
        noValley("p10,p15");
        noValley("p10,p15;");
        noValley("p10,p15;1");
        noValley("p10;12");
        noValley("p10,p15;1234567");
        noValley("p10,p15;102");
        noValley("p10,p15,p10,p10,p10;12");
        noValley("p10,p16;12");
        noValley("p00,p15;12");
        noValley("x10,p15;12");
        GrudgeRennet x = new GrudgeRennet();
        Due.write(x, "p10,s25;19");
        due.is(5, "valley() of two", x.valley(), 2);
        due.is(5, "letters then", x.count(11), 0);
        due.is(5, "valleys read", x.count(12), 1);
        due.is(5, "people", x.count(0), 2);
        due.is(5, "valley() of an empty page", x.valley(), STATE);
        due.is(5, "the valley stays", x.person(1, 1), 2);
        Due.write(x, "p10,s25,b34,t43,");
        due.is(5, "valley() of none", x.valley(), STATE);
        x.blank();
        Due.write(x, "m91,s25,b34,t43;123456");
        due.is(5, "valley() of four", x.valley(), 6);
        due.is(5, "valleys read", x.count(12), 2);
        due.is(5, "people", x.count(0), 4);
        due.is(5, "pails", x.count(1), 6);
        int[] kinds = {4, 1, 2, 3};
        int[] prides = {9, 2, 3, 4};
        int[] places = {1, 5, 4, 3};
        for (int i = 0; i < 4; i++) {
            due.is(5, "kind of " + i, x.person(i, 0), kinds[i]);
            due.is(5, "pride of " + i, x.person(i, 1), prides[i]);
            due.is(5, "place of " + i, x.person(i, 2), places[i]);
        }
        for (int i = 0; i < 6; i++) {
            due.is(5, "pail " + i + " wants", x.pail(i, 0), i + 1);
        }
    }

    private static void valleyClearsAll() {
        GrudgeRennet x = Due.in("p50,b53;2929");
        x.slight(0, 1);
        x.slight(1, 1);
        x.curdle();
        x.keep(2, 0);
        x.slight(0, 1);
        x.keep(1, 0);
        x.pour(1, 2);
        x.slight(0, 0);
        x.night();
        x.see(0, 0, 4);
        x.few(1, 0);
        x.few(1, 0);
        x.week(1, 0);
        x.image();
        Due.write(x, "p51,b52;2929");
        due.is(5, "valley()", x.valley(), 4);
        int[] cleared = {2, 3, 4, 5, 6, 7, 8, 9, 10, 11};
        for (int what : cleared) {
            due.is(5, "count(" + what + ") in another valley", x.count(what), 0);
        }
        due.is(5, "few() was done", x.count(13), 2);
        due.is(5, "week() was done", x.count(14), 1);
        due.is(5, "restore()", x.restore(), STATE);
        due.is(5, "bottle(2)", x.bottle(2), 0);
        due.is(5, "person(0, 4)", x.person(0, 4), 0);
        due.is(5, "person(0, 7)", x.person(0, 7), 511);
        due.is(5, "person(0, 2)", x.person(0, 2), 1);
        due.is(5, "force(2)", x.force(2), 0);
    }

    private static void personPlain() {
        GrudgeRennet x = Due.in("t70,m92;35");
        x.slight(0, 1);
        x.slight(0, 2);
        x.sit(1, 4);
        due.is(6, "person(0, 0)", x.person(0, 0), 3);
        due.is(6, "person(0, 1)", x.person(0, 1), 7);
        due.is(6, "person(0, 2)", x.person(0, 2), 0);
        due.is(6, "person(1, 2)", x.person(1, 2), 4);
        due.is(6, "person(0, 3)", x.person(0, 3), 18);
        due.is(6, "person(0, 4)", x.person(0, 4), 2);
        due.is(6, "person(1, 4)", x.person(1, 4), 0);
        int[] strangers = {2, 3, -1, MIN, MAX};
        for (int person : strangers) {
            due.is(6, "person(" + person + ", 0)", x.person(person, 0), UNKNOWN);
            due.is(6, "person(" + person + ", 9)", x.person(person, 9), UNKNOWN);
        }
        int[] untold = {-1, 9, 13, 14, MIN, MAX};
        for (int what : untold) {
            due.is(6, "person(0, " + what + ")", x.person(0, what), OUTSIDE);
        }
    }

    private static void growths(GrudgeRennet x, int person, int chair, int hem, int thanks) {
        due.is(6, "person(" + person + ", 10)", x.person(person, 10), chair);
        due.is(6, "person(" + person + ", 11)", x.person(person, 11), hem);
        due.is(6, "person(" + person + ", 12)", x.person(person, 12), thanks);
    }

    private static void personGrowth() {
        GrudgeRennet x = Due.in("p70,s70,t70,m90;35");
        growths(x, 0, 5, 8, 2);
        growths(x, 1, 2, 4, 1);
        growths(x, 2, 5, 16, 2);
        growths(x, 3, 3, 5, 1);
        x = Due.in("b10,t90,s10;35");
        growths(x, 0, 0, 1, 0);
        growths(x, 1, 7, 21, 3);
        growths(x, 2, 0, 0, 0);
        for (int i = 0; i < 4; i++) {
            x.slight(1, 1);
        }
        growths(x, 1, 7, 15, 3);
        x.slight(1, 0);
        x.slight(1, 2);
        x.slight(1, 2);
        growths(x, 1, 2, 2, 2);
        x.slight(1, 1);
        growths(x, 1, 0, 0, 0);
        due.is(6, "99 at most", x.person(1, 3), 99);
    }

    private static void seatOf(GrudgeRennet x, int person, int place, int sets) {
        due.is(6, "person(" + person + ", 6)", x.person(person, 6), sets);
        due.is(6, "person(" + person + ", 5)", x.person(person, 5), place);
    }

    private static void personSeat() {
        GrudgeRennet x = Due.in("p55,p55;6666");
        seatOf(x, 0, 0, 0);
        x.slight(0, 0);
        x.slight(0, 1);
        seatOf(x, 0, 1, 4);
        seatOf(x, 1, 0, 1);
        due.is(6, "he sits where he did", x.person(0, 2), 5);
        x.sit(0, 1);
        seatOf(x, 1, 0, 4);
        due.is(6, "would() stays", x.would(), 15);
        x.curdle();
        seatOf(x, 0, 1, 4);
        x = Due.in("p50,p55;9999");
        x.slight(0, 1);
        x.keep(0, 0);
        x.pour(0, 3);
        x.slight(1, 0);
        seatOf(x, 1, 3, 1);
    }

    private static void pridesOf(GrudgeRennet x, int person, int bits, int best) {
        due.is(6, "person(" + person + ", 7)", x.person(person, 7), bits);
        due.is(6, "person(" + person + ", 8)", x.person(person, 8), best);
    }

    private static void personPrides() {
        GrudgeRennet x = Due.in("p10,s10,t10,m10;35");
        pridesOf(x, 0, 511, 1);
        pridesOf(x, 1, 511, 1);
        pridesOf(x, 2, 511, 1);
        x.see(0, 0, 4);
        pridesOf(x, 0, 16 + 32, 1);
        pridesOf(x, 1, 511, 1);
        x.see(1, 2, 1);
        pridesOf(x, 1, 16 + 32 + 64 + 128 + 256, 1);
        x.see(1, 0, 3);
        pridesOf(x, 1, 128 + 256, 1);
        x.see(2, 1, 7);
        pridesOf(x, 2, 4, 0);
        x.see(3, 1, 99);
        pridesOf(x, 3, 0, NONE);
        x.see(0, 1, 6);
        pridesOf(x, 0, 16, 0);
        x.forget();
        pridesOf(x, 0, 511, 1);
        x.see(0, 0, 0);
        x.see(3, 1, 0);
        x.see(3, 1, 0);
        pridesOf(x, 0, 1, 0);
        pridesOf(x, 3, 1, 0);
        x.forget();
        // From a martyr's thanks: 1 to 4 grow by nothing; chairs tell 1, 2 from 3, 4; hems 1 from 2, 3 from 4.
        x.see(3, 2, 0);
        pridesOf(x, 3, 15, 0);
        x.slight(0, 1);
        x.see(0, 1, 2);
        pridesOf(x, 0, 2, 0);
    }

    private static void as() {
        GrudgeRennet x = Due.in("p10,s10,b10,t10;35");
        int[][] want = {{0, -1, -1, -1, -1}, {1, 1, -1, -1, -1}, {2, -1, 2, -1, -1}, {3, -1, -1, 3, -1}};
        for (int person = 0; person < 4; person++) {
            for (int kind = 0; kind < 5; kind++) {
                due.is(7, "as(" + person + ", " + kind + ")", x.as(person, kind), want[person][kind]);
            }
        }
        due.is(7, "as(0, 5)", x.as(0, 5), OUTSIDE);
        due.is(7, "as(0, -1)", x.as(0, -1), OUTSIDE);
        due.is(7, "as(4, 0)", x.as(4, 0), UNKNOWN);
        due.is(7, "as(-1, 5)", x.as(-1, 5), UNKNOWN);
        x = Due.in("p10,m10;35");
        int[] martyr = {1, 1, -1, -1, 1};
        for (int kind = 0; kind < 5; kind++) {
            due.is(7, "as(1, " + kind + ") of a martyr", x.as(1, kind), martyr[kind]);
        }
        due.is(7, "as(2, 0)", x.as(2, 0), UNKNOWN);
        due.is(7, "as(1, MIN)", x.as(1, MIN), OUTSIDE);
    }

    private static void pailPlain() {
        GrudgeRennet x = Due.in("p51,p54;469");
        x.slight(0, 1);
        int[] wants = {4, 6, 9};
        int[] forces = {4, 6, 4};
        int[] would = {1, 1, 0};
        for (int i = 0; i < 3; i++) {
            due.is(8, "pail(" + i + ", 0)", x.pail(i, 0), wants[i]);
            due.is(8, "pail(" + i + ", 1)", x.pail(i, 1), forces[i]);
            due.is(8, "pail(" + i + ", 2)", x.pail(i, 2), 0);
            due.is(8, "pail(" + i + ", 3)", x.pail(i, 3), would[i]);
        }
        x.curdle();
        x.soothe(0);
        for (int i = 0; i < 3; i++) {
            due.is(8, "pail(" + i + ", 2) then", x.pail(i, 2), would[i]);
            due.is(8, "pail(" + i + ", 3) then", x.pail(i, 3), 0);
        }
        int[] strangers = {3, 6, -1, MIN, MAX};
        for (int pail : strangers) {
            due.is(8, "pail(" + pail + ", 0)", x.pail(pail, 0), UNKNOWN);
            due.is(8, "pail(" + pail + ", 7)", x.pail(pail, 7), UNKNOWN);
        }
        int[] untold = {-1, 7, 8, MIN, MAX};
        for (int what : untold) {
            due.is(8, "pail(0, " + what + ")", x.pail(0, what), OUTSIDE);
        }
    }

    private static void kept(GrudgeRennet x, int bottle, int... slights) {
        for (int how : slights) {
            x.slight(0, how);
        }
        x.keep(bottle, 0);
    }

    private static void pailPour() {
        GrudgeRennet x = Due.in("p50,p50;7929");
        due.is(8, "pail(0, 4) of empty bottles", x.pail(0, 4), NONE);
        kept(x, 0, 1);
        kept(x, 1, 0);
        kept(x, 2, 0);
        kept(x, 3, 2);
        // 6, 4, 4, 2 in them: pail 0 wants 7, pail 1 9, pail 2 2.
        due.is(8, "pail(0, 4): least of two", x.pail(0, 4), 2 + 4);
        due.is(8, "pail(1, 4): first of like ones", x.pail(1, 4), 1 + 2);
        due.is(8, "pail(2, 4): least of one", x.pail(2, 4), 8);
        x.slight(0, 2);
        due.is(8, "pail(2, 4) with a grudge afar", x.pail(2, 4), 8);
        due.is(8, "pail(0, 4) with a grudge of 2", x.pail(0, 4), 1);
        x.slight(0, 1);
        due.is(8, "pail(0, 4): it would anyhow", x.pail(0, 4), 0);
        due.is(8, "pail(2, 4): it would anyhow", x.pail(2, 4), 0);
        x.curdle();
        due.is(8, "pail(0, 4), set as it is", x.pail(0, 4), 0);
        x.soothe(0);
        due.is(8, "pail(0, 4) set, all milk being fresh", x.pail(0, 4), 2 + 4);
        x.pour(2, 0);
        due.is(8, "pail(0, 4) with a drop there", x.pail(0, 4), 2);
        due.is(8, "pail(1, 4) with a drop by", x.pail(1, 4), 1 + 8);
        x = Due.in("p30,p30;31");
        kept(x, 2, 2);
        x.slight(1, 2);
        x.slight(1, 2);
        due.is(8, "pail(0, 4), 1 lacking", x.pail(0, 4), 4);
        due.is(8, "pail(1, 4), 1 lacking", x.pail(1, 4), 4);
        x.slight(1, 2);
        due.is(8, "pail(0, 4), just enough", x.pail(0, 4), 0);
        due.is(8, "pail(1, 4), just enough", x.pail(1, 4), 0);
        x = Due.in("p50,p50;99");
        kept(x, 0, 2);
        kept(x, 3, 2);
        due.is(8, "pail(0, 4) by too little", x.pail(0, 4), NONE);
        kept(x, 1, 2);
        kept(x, 2, 0);
        due.is(8, "pail(0, 4) by all", x.pail(0, 4), 15);
    }

    private static void oddsOf(GrudgeRennet x, int pail, int above, int below) {
        due.is(8, "pail(" + pail + ", 5)", x.pail(pail, 5), above);
        due.is(8, "pail(" + pail + ", 6)", x.pail(pail, 6), below);
    }

    private static void pailOdds() {
        GrudgeRennet x = Due.in("p50,p51;4692");
        oddsOf(x, 0, 1, 2);
        oddsOf(x, 1, 1, 6);
        oddsOf(x, 2, 0, 1);
        oddsOf(x, 3, 1, 6);
        x.slight(0, 1);
        oddsOf(x, 0, 1, 1);
        oddsOf(x, 1, 1, 1);
        oddsOf(x, 2, 0, 1);
        x.slight(0, 2);
        oddsOf(x, 2, 1, 6);
        x.curdle();
        oddsOf(x, 1, 1, 1);
        x.soothe(0);
        oddsOf(x, 0, 1, 2);
        x = Due.in("p50,p50,p50;26");
        oddsOf(x, 0, 1, 1);
        oddsOf(x, 1, 0, 1);
        x = Due.in("p50,p51,t50;24");
        oddsOf(x, 1, 4, 9);
    }

    private static void slight() {
        GrudgeRennet x = Due.in("t90,s70;35");
        due.is(9, "slight(0, 1)", x.slight(0, 1), 21);
        due.is(9, "slight(0, 0)", x.slight(0, 0), 28);
        due.is(9, "slight(0, 2)", x.slight(0, 2), 31);
        due.is(9, "slight(1, 1)", x.slight(1, 1), 4);
        due.is(9, "count(8)", x.count(8), 4);
        due.is(9, "slight(2, 0)", x.slight(2, 0), UNKNOWN);
        due.is(9, "slight(-1, 3)", x.slight(-1, 3), UNKNOWN);
        due.is(9, "slight(0, 3)", x.slight(0, 3), OUTSIDE);
        due.is(9, "slight(0, -1)", x.slight(0, -1), OUTSIDE);
        due.is(9, "slight(0, MIN)", x.slight(0, MIN), OUTSIDE);
        due.is(9, "count(8) then", x.count(8), 4);
        x.slight(0, 1);
        x.slight(0, 1);
        due.is(9, "slight(0, 1)", x.slight(0, 1), 94);
        due.is(9, "99 at most", x.slight(0, 1), 99);
        due.is(9, "99 at most", x.slight(0, 1), 99);
        due.is(9, "person(0, 4)", x.person(0, 4), 8);
        due.is(9, "person(1, 4)", x.person(1, 4), 1);
    }

    private static void soothe() {
        GrudgeRennet x = Due.in("b90,s70;35");
        x.slight(0, 1);
        x.slight(1, 1);
        due.is(10, "soothe(0)", x.soothe(0), 10);
        due.is(10, "person(0, 3)", x.person(0, 3), 0);
        due.is(10, "person(1, 3)", x.person(1, 3), 4);
        due.is(10, "soothe(0) again", x.soothe(0), 0);
        due.is(10, "person(0, 4) stays", x.person(0, 4), 1);
        due.is(10, "soothe(2)", x.soothe(2), UNKNOWN);
        due.is(10, "soothe(-1)", x.soothe(-1), UNKNOWN);
        due.is(10, "soothe(MAX)", x.soothe(MAX), UNKNOWN);
    }

    private static void sit() {
        GrudgeRennet x = Due.in("b90,s74;35");
        due.is(11, "sit(1, 5)", x.sit(1, 5), 4);
        due.is(11, "sit(1, 0)", x.sit(1, 0), 5);
        due.is(11, "sit(1, 0)", x.sit(1, 0), 0);
        due.is(11, "sit(1, 6)", x.sit(1, 6), UNKNOWN);
        due.is(11, "sit(1, -1)", x.sit(1, -1), UNKNOWN);
        due.is(11, "sit(2, 0)", x.sit(2, 0), UNKNOWN);
        due.is(11, "sit(MIN, MIN)", x.sit(MIN, MIN), UNKNOWN);
        due.is(11, "person(1, 2)", x.person(1, 2), 0);
        due.is(11, "person(0, 2)", x.person(0, 2), 0);
        x.slight(0, 1);
        x.sit(0, 5);
        due.is(11, "force(5)", x.force(5), 10);
        due.is(11, "force(0)", x.force(0), 0);
    }

    private static void night() {
        GrudgeRennet x = Due.in("p90,s90,b90,m90;35");
        for (int i = 0; i < 4; i++) {
            x.slight(i, 1);
            x.slight(i, 2);
        }
        due.is(12, "night()", x.night(), 1);
        int[] first = {6, 3, 13, 4};
        int[] second = {3, 1, 13, 3};
        int[] third = {1, 0, 13, 2};
        int[] fourth = {0, 0, 13, 2};
        grudges(x, first);
        due.is(12, "night()", x.night(), 2);
        grudges(x, second);
        x.night();
        grudges(x, third);
        x.night();
        grudges(x, fourth);
        x.soothe(3);
        x.night();
        due.is(12, "a martyr with none", x.person(3, 3), 0);
        for (int i = 6; i <= 99; i++) {
            due.is(12, "night no. " + i, x.night(), i);
        }
        due.is(12, "night no. 100", x.night(), FULL);
        due.is(12, "count(7)", x.count(7), 99);
        x = Due.in("m50,t50;35");
        x.slight(0, 2);
        x.night();
        due.is(12, "a martyr with 1", x.person(0, 3), 1);
        x.slight(1, 0);
        x.night();
        due.is(12, "one that is touchy", x.person(1, 3), 2);
    }

    private static void grudges(GrudgeRennet x, int[] want) {
        for (int i = 0; i < want.length; i++) {
            due.is(12, "grudge of " + i, x.person(i, 3), want[i]);
        }
    }

    private static void curdle() {
        GrudgeRennet x = Due.in("p50,p55;4499");
        due.is(13, "curdle()", x.curdle(), 0);
        x.slight(0, 1);
        due.is(13, "curdle()", x.curdle(), 2);
        due.is(13, "curdle() again", x.curdle(), 0);
        due.is(13, "count(3)", x.count(3), 2);
        due.is(13, "count(9)", x.count(9), 2);
        due.is(13, "the grudge stays", x.person(0, 3), 6);
        x.fresh(1);
        due.is(13, "curdle() of one", x.curdle(), 1);
        due.is(13, "count(9)", x.count(9), 3);
        x.slight(1, 1);
        x.slight(1, 1);
        x.keep(0, 1);
        x.pour(0, 3);
        due.is(13, "curdle() by a drop", x.curdle(), 2);
        due.is(13, "drops are gone", x.count(6), 0);
        due.is(13, "force(3)", x.force(3), 0);
        due.is(13, "count(3)", x.count(3), 4);
        due.is(13, "count(9)", x.count(9), 5);
    }

    private static void fresh() {
        GrudgeRennet x = Due.in("p50,p55;444");
        due.is(14, "fresh(0)", x.fresh(0), 0);
        x.slight(0, 1);
        x.curdle();
        due.is(14, "fresh(0)", x.fresh(0), 1);
        due.is(14, "fresh(0) again", x.fresh(0), 0);
        due.is(14, "pail(0, 2)", x.pail(0, 2), 0);
        due.is(14, "pail(1, 2)", x.pail(1, 2), 1);
        due.is(14, "count(9) stays", x.count(9), 2);
        due.is(14, "fresh(2)", x.fresh(2), 0);
        due.is(14, "fresh(3)", x.fresh(3), UNKNOWN);
        due.is(14, "fresh(-1)", x.fresh(-1), UNKNOWN);
        due.is(14, "fresh(33)", x.fresh(33), UNKNOWN);
        due.is(14, "fresh(MAX)", x.fresh(MAX), UNKNOWN);
    }

    private static void force() {
        GrudgeRennet x = Due.in("p52,p94;44");
        x.slight(0, 1);
        x.slight(1, 0);
        // 6 at 2, 7 at 4.
        int[] want = {2, 4 + 1, 6 + 3, 4 + 5, 2 + 7, 5};
        for (int place = 0; place < 6; place++) {
            due.is(15, "force(" + place + ")", x.force(place), want[place]);
        }
        x.keep(0, 0);
        x.pour(0, 5);
        int[] poured = {0, 1, 3, 5 + 2, 7 + 4, 5 + 6};
        for (int place = 0; place < 6; place++) {
            due.is(15, "force(" + place + ") with a drop", x.force(place), poured[place]);
        }
        x = Due.in("p30,p33;11");
        x.slight(1, 2);
        due.is(15, "force(3) of a grudge of 1", x.force(3), 1);
        due.is(15, "force(2) of a grudge of 1", x.force(2), 0);
        due.is(15, "force(6)", x.force(6), UNKNOWN);
        due.is(15, "force(-1)", x.force(-1), UNKNOWN);
        due.is(15, "force(MIN)", x.force(MIN), UNKNOWN);
        due.is(15, "force(0) without a valley", new GrudgeRennet().force(0), UNKNOWN);
    }

    private static void keep() {
        GrudgeRennet x = Due.in("p50,p90;44");
        due.is(16, "keep(0, 0) of none", x.keep(0, 0), STATE);
        x.slight(0, 1);
        x.slight(1, 0);
        due.is(16, "keep(4, 0)", x.keep(4, 0), UNKNOWN);
        due.is(16, "keep(-1, 0)", x.keep(-1, 0), UNKNOWN);
        due.is(16, "keep(0, 2)", x.keep(0, 2), UNKNOWN);
        due.is(16, "keep(MAX, MAX)", x.keep(MAX, MAX), UNKNOWN);
        due.is(16, "keep(3, 0)", x.keep(3, 0), 6);
        due.is(16, "he has none then", x.person(0, 3), 0);
        due.is(16, "bottle(3)", x.bottle(3), 6);
        due.is(16, "keep(3, 1), not empty", x.keep(3, 1), STATE);
        due.is(16, "keep(2, 0) of none", x.keep(2, 0), STATE);
        due.is(16, "he keeps it", x.person(1, 3), 7);
        due.is(16, "keep(0, 1)", x.keep(0, 1), 7);
        due.is(16, "count(5)", x.count(5), 2);
        x.night();
        due.is(16, "a bottle over night", x.bottle(0), 7);
        x = Due.in("p30,p90;44");
        kept(x, 1, 2);
        x.slight(1, 0);
        due.is(16, "keep(1, 1), 1 in it", x.keep(1, 1), STATE);
        due.is(16, "count(5) with 1 in it", x.count(5), 1);
    }

    private static void pour() {
        GrudgeRennet x = Due.in("p50,p90;44");
        due.is(17, "pour(0, 0) of none", x.pour(0, 0), STATE);
        for (int i = 0; i < 4; i++) {
            kept(x, i, 1);
        }
        due.is(17, "pour(4, 0)", x.pour(4, 0), UNKNOWN);
        due.is(17, "pour(-1, 0)", x.pour(-1, 0), UNKNOWN);
        due.is(17, "pour(0, 6)", x.pour(0, 6), UNKNOWN);
        due.is(17, "pour(0, -1)", x.pour(0, -1), UNKNOWN);
        due.is(17, "pour(MIN, MAX)", x.pour(MIN, MAX), UNKNOWN);
        for (int i = 0; i < 4; i++) {
            due.is(17, "pour(" + i + ", 5)", x.pour(i, 5), 6);
            due.is(17, "count(6)", x.count(6), i + 1);
            due.is(17, "bottle(" + i + ")", x.bottle(i), 0);
            due.is(17, "force(5)", x.force(5), 6 * (i + 1));
        }
        kept(x, 2, 0);
        due.is(17, "a fifth drop", x.pour(2, 0), FULL);
        due.is(17, "an empty bottle goes ahead", x.pour(1, 0), STATE);
        due.is(17, "bottle(2) stays", x.bottle(2), 4);
        due.is(17, "POUR is by bottles alone", x.pail(0, 4), 4);
        x.night();
        due.is(17, "drops over night", x.force(5), 24);
        x.curdle();
        due.is(17, "pour(2, 0)", x.pour(2, 0), 4);
        due.is(17, "pour() without a valley", new GrudgeRennet().pour(0, 0), UNKNOWN);
    }

    private static void bottle() {
        GrudgeRennet x = Due.in("p50,p90;44");
        kept(x, 3, 2);
        due.is(18, "bottle(0)", x.bottle(0), 0);
        due.is(18, "bottle(3)", x.bottle(3), 2);
        due.is(18, "bottle(4)", x.bottle(4), UNKNOWN);
        due.is(18, "bottle(-1)", x.bottle(-1), UNKNOWN);
        due.is(18, "bottle(MIN)", x.bottle(MIN), UNKNOWN);
        due.is(18, "bottle(0) without a valley", new GrudgeRennet().bottle(0), UNKNOWN);
    }

    private static void would() {
        GrudgeRennet x = Due.in("p52,p55;2969");
        due.is(19, "would()", x.would(), 0);
        x.slight(0, 1);
        due.is(19, "would()", x.would(), 1 + 4);
        x.curdle();
        due.is(19, "would(), all milk being fresh", x.would(), 1 + 4);
        x.slight(1, 1);
        x.keep(0, 1);
        x.pour(0, 3);
        due.is(19, "would() with a drop", x.would(), 1 + 4 + 8);
        due.is(19, "count(4)", x.count(4), 3);
        due.is(19, "would() changes nothing", x.count(3), 2);
        due.is(19, "would() without a valley", new GrudgeRennet().would(), STATE);
    }

    private static void fewIs(GrudgeRennet x, int pails, int... want) {
        int[] whats = {0, 10, 11, 12};
        for (int i = 0; i < 4; i++) {
            due.is(20, "few(" + pails + ", " + whats[i] + ")", x.few(pails, whats[i]), want[i]);
        }
    }

    private static void few() {
        GrudgeRennet x = Due.in("p50,p52;699");
        fewIs(x, 1, 1, 1, NONE, NONE);
        // Pail 1 wants 9: two hems of the first one leave 10 there, a hem and a chair 8.
        fewIs(x, 3, 2, 1, 1, NONE);
        // Pail 2 wants 9: of the second one a chair and a hem, or two hems.
        fewIs(x, 4, 2, 3, 4, NONE);
        fewIs(x, 7, 2, 4, 4, NONE);
        x.slight(0, 1);
        fewIs(x, 1, 0, NONE, NONE, NONE);
        x = Due.in("p10,p15;99");
        fewIs(x, 1, NONE, NONE, NONE, NONE);
        x = Due.in("p50,p50;99");
        x.slight(0, 1);
        x.keep(0, 0);
        x.pour(0, 1);
        fewIs(x, 3, 1, 1, NONE, NONE);
        due.is(20, "few() changes nothing", x.count(2) + x.count(8) * 100, 100);
        x = Due.in("p30,p30;99");
        // Hems are worth 3 to them, chairs 2.
        fewIs(x, 1, 3, 1, 1, 1);
        x = Due.in("p30,p30;89");
        fewIs(x, 1, 3, 0, 1, 1);
    }

    private static void fewLimits() {
        GrudgeRennet x = Due.in("p50,p52;699");
        int[] nobody = {0, 8, 15, -1, MIN, MAX};
        for (int pails : nobody) {
            due.is(20, "few(" + pails + ", 0)", x.few(pails, 0), OUTSIDE);
        }
        int[] untold = {1, 9, 13, -1, MIN, MAX};
        for (int what : untold) {
            due.is(20, "few(1, " + what + ")", x.few(1, what), OUTSIDE);
        }
        due.is(20, "refused ones were not done", x.count(13), 0);
        for (int i = 0; i < 30; i++) {
            due.is(20, "few(1, 0)", x.few(1, 0), 1);
        }
        due.is(20, "few() once more", x.few(1, 0), STATE);
        due.is(20, "few(0, 0) then", x.few(0, 0), OUTSIDE);
        due.is(20, "few(1, 1) then", x.few(1, 1), OUTSIDE);
        due.is(20, "count(13)", x.count(13), 30);
        Due.write(x, "p50,p52;69");
        x.valley();
        due.is(20, "few() in another valley", x.few(1, 0), STATE);
    }

    private static void weekIs(GrudgeRennet x, int days, int... want) {
        int[] whats = {0, 10, 11, 12};
        for (int i = 0; i < 4; i++) {
            due.is(21, "week(" + days + ", " + whats[i] + ")", x.week(days, whats[i]), want[i]);
        }
    }

    private static void week() {
        GrudgeRennet x = Due.in("p50,p55;69");
        weekIs(x, 1, 1, 1, NONE, NONE);
        // 6 and 3 left, by a chair 7 and 3 left, by a chair 7: one each day.
        weekIs(x, 2, 2, 1, 0, NONE);
        weekIs(x, 3, 3, 1, 0, 0);
        x = Due.in("p10,p15;99");
        weekIs(x, 3, 0, NONE, NONE, NONE);
        x = Due.in("p50,p55;99");
        x.slight(0, 1);
        x.slight(0, 1);
        x.keep(0, 0);
        x.pour(0, 0);
        // The drop sets both on the first day; then there is none.
        weekIs(x, 1, 2, NONE, NONE, NONE);
        x = Due.in("p90,p15;99");
        x.slight(0, 1);
        x.slight(0, 1);
        x.keep(0, 0);
        x.pour(0, 0);
        // The drop of 20 sets both on the first day; a chair then leaves 3, with a hem 13 on the second, 6 left.
        weekIs(x, 2, 4, 0, 1, NONE);
        weekIs(x, 3, 6, 0, 1, 0);
        x = Due.in("b50,p55;65");
        // The brooder's 6 reaches 4 at the next place: a slight more is needed there, on the second day.
        weekIs(x, 2, 3, 1, 0, NONE);
        due.is(21, "week() changes nothing", x.count(2) + x.count(7) + x.count(8), 0);
    }

    private static void weekLimits() {
        GrudgeRennet x = Due.in("p50,p52;699");
        int[] days = {0, 4, -1, MIN, MAX};
        for (int d : days) {
            due.is(21, "week(" + d + ", 0)", x.week(d, 0), OUTSIDE);
        }
        int[] untold = {1, 2, 9, 13, -1, MIN, MAX};
        for (int what : untold) {
            due.is(21, "week(1, " + what + ")", x.week(1, what), OUTSIDE);
        }
        due.is(21, "refused ones were not done", x.count(14), 0);
        for (int i = 0; i < 20; i++) {
            due.is(21, "week(1, 0)", x.week(1, 0), 1);
        }
        due.is(21, "week() once more", x.week(1, 0), STATE);
        due.is(21, "week(0, 0) then", x.week(0, 0), OUTSIDE);
        due.is(21, "count(14)", x.count(14), 20);
        due.is(21, "few() is counted by itself", x.few(1, 0), 1);
        Due.write(x, "p50,p52;69");
        x.valley();
        due.is(21, "week() in another valley", x.week(1, 0), STATE);
    }

    private static void who() {
        GrudgeRennet x = Due.in("p50,p51;42");
        // 0: 4 and 2; 1: 6 and 4; 2: 2 and 0; 3: 2 and 4; 4: 4 and 6; 5: 0 and 2.
        due.is(22, "who(0)", x.who(0), 4);
        due.is(22, "who(1)", x.who(1), 0);
        due.is(22, "who(2)", x.who(2), 8 + 32);
        due.is(22, "who(3)", x.who(3), 1 + 2 + 16);
        int[] nobody = {4, 8, -1, MIN, MAX};
        for (int pails : nobody) {
            due.is(22, "who(" + pails + ")", x.who(pails), OUTSIDE);
        }
        x.slight(0, 0);
        x.curdle();
        due.is(22, "who(3), all milk being fresh", x.who(3), 63);
        due.is(22, "who() changes nothing", x.count(2), 4);
        due.is(22, "who(0) without a valley", new GrudgeRennet().who(0), STATE);
        due.is(22, "who(1) without a valley", new GrudgeRennet().who(1), OUTSIDE);
        due.is(22, "who(MIN) without a valley", new GrudgeRennet().who(MIN), OUTSIDE);
    }

    private static void see() {
        GrudgeRennet x = Due.in("p50,p51;42");
        due.is(23, "see(2, 0, 0)", x.see(2, 0, 0), UNKNOWN);
        due.is(23, "see(-1, 9, 0)", x.see(-1, 9, 0), UNKNOWN);
        due.is(23, "see(0, 3, 0)", x.see(0, 3, 0), OUTSIDE);
        due.is(23, "see(0, -1, 0)", x.see(0, -1, 0), OUTSIDE);
        due.is(23, "see(0, 0, 100)", x.see(0, 0, 100), OUTSIDE);
        due.is(23, "see(0, 0, -1)", x.see(0, 0, -1), OUTSIDE);
        due.is(23, "count(10)", x.count(10), 0);
        due.is(23, "see(0, 2, 99)", x.see(0, 2, 99), 1);
        due.is(23, "see(1, 0, 0)", x.see(1, 0, 0), 2);
        for (int i = 3; i <= 6; i++) {
            due.is(23, "see(1, 2, 0)", x.see(1, 2, 0), i);
        }
        due.is(23, "a seventh", x.see(1, 0, 0), FULL);
        due.is(23, "see(0, 0, 100) then", x.see(0, 0, 100), OUTSIDE);
        due.is(23, "see(2, 0, 0) then", x.see(2, 0, 0), UNKNOWN);
        due.is(23, "count(10)", x.count(10), 6);
        due.is(23, "nobody has a grudge", x.count(2), 0);
    }

    private static void forget() {
        GrudgeRennet x = Due.in("p50,p51;42");
        due.is(24, "forget()", x.forget(), 0);
        x.see(0, 0, 4);
        x.see(1, 0, 4);
        due.is(24, "forget()", x.forget(), 2);
        due.is(24, "forget() again", x.forget(), 0);
        due.is(24, "person(0, 7)", x.person(0, 7), 511);
        due.is(24, "see() then", x.see(0, 0, 7), 1);
        due.is(24, "person(0, 7)", x.person(0, 7), 256);
        due.is(24, "person(1, 7)", x.person(1, 7), 511);
    }

    private static void weeks() {
        GrudgeRennet x = Due.in("p50,p51;42");
        // Of seed 0: 12345, by 65536 0: the first one; then 1406932606, 21468: by 4 none over: a chair.
        due.is(25, "weeks(1, 0, 0)", x.weeks(1, 0, 0), 2);
        due.is(25, "weeks(1, 0, 1)", x.weeks(1, 0, 1), 2);
        due.is(25, "weeks(1, 0, 2)", x.weeks(1, 0, 2), 1406932606);
        // Then 654583775, 9988: the first one; 1449466924, 22117: by 4 one over: a hem; 8 is 4 over night.
        due.is(25, "weeks(2, 0, 0)", x.weeks(2, 0, 0), 4);
        due.is(25, "weeks(2, 0, 1)", x.weeks(2, 0, 1), 4);
        due.is(25, "weeks(2, 0, 2)", x.weeks(2, 0, 2), 1449466924);
        due.is(25, "weeks() changes nothing", x.count(2) + x.count(7) + x.count(8) + x.count(9), 0);
        x.slight(1, 1);
        x.keep(0, 1);
        x.pour(0, 1);
        due.is(25, "weeks(1, 0, 0) without drops", x.weeks(1, 0, 0), 2);
        x.slight(1, 1);
        due.is(25, "weeks(1, 0, 1) from grudges", x.weeks(1, 0, 1), 5);
        due.is(25, "drops stay", x.count(6), 1);
        x = Due.in("p50,b51;49");
        kept(x, 0, 1, 1);
        x.pour(0, 0);
        // Of seed 3: the second one, by nothing; of seed 5: the second one, by a hem.
        due.is(25, "weeks(1, 3, 0)", x.weeks(1, 3, 0), 0);
        due.is(25, "weeks(1, 3, 1)", x.weeks(1, 3, 1), 0);
        due.is(25, "weeks(1, 3, 2)", x.weeks(1, 3, 2), 465823161);
        due.is(25, "weeks(1, 5, 0)", x.weeks(1, 5, 0), 1);
        due.is(25, "weeks(1, 5, 1)", x.weeks(1, 5, 1), 6);
        int[] days = {0, 61, -1, MIN, MAX};
        for (int d : days) {
            due.is(25, "weeks(" + d + ", 0, 0)", x.weeks(d, 0, 0), OUTSIDE);
        }
        due.is(25, "weeks(1, -1, 0)", x.weeks(1, -1, 0), OUTSIDE);
        due.is(25, "weeks(1, MIN, 0)", x.weeks(1, MIN, 0), OUTSIDE);
        due.is(25, "weeks(1, 0, 3)", x.weeks(1, 0, 3), OUTSIDE);
        due.is(25, "weeks(1, 0, -1)", x.weeks(1, 0, -1), OUTSIDE);
        long seed = MAX;
        for (int i = 0; i < 120; i++) {
            seed = (1103515245L * seed + 12345L) % (1L << 31);
        }
        due.is(25, "weeks(60, MAX, 2)", x.weeks(60, MAX, 2), seed);
    }

    private static void image() {
        GrudgeRennet x = Due.in("p50,p51;42");
        due.is(26, "image()", x.image(), 0);
        x.night();
        x.night();
        due.is(26, "image()", x.image(), 2);
        x.night();
        due.is(26, "the latest", x.restore(), 2);
        due.is(26, "count(7)", x.count(7), 2);
        due.is(26, "image() without a valley", new GrudgeRennet().image(), STATE);
    }

    private static void restore() {
        GrudgeRennet x = Due.in("p50,b53;2929");
        due.is(27, "restore() of none", x.restore(), STATE);
        x.slight(0, 1);
        x.slight(1, 0);
        x.curdle();
        kept(x, 2, 0);
        kept(x, 1, 1);
        x.pour(1, 2);
        x.night();
        x.see(0, 0, 4);
        x.see(1, 0, 4);
        x.sit(0, 4);
        x.slight(0, 0);
        x.image();
        long before = x.digest();
        int would = x.would();
        x.slight(0, 1);
        x.slight(1, 1);
        x.curdle();
        x.fresh(0);
        x.sit(0, 5);
        x.sit(1, 5);
        x.pour(2, 3);
        x.keep(0, 1);
        x.pour(0, 1);
        x.keep(3, 0);
        x.forget();
        x.see(1, 1, 3);
        x.night();
        due.is(27, "restore()", x.restore(), 1);
        due.is(27, "digest() then", x.digest(), before);
        due.is(27, "would() then", x.would(), would);
        x.slight(0, 1);
        x.sit(0, 0);
        due.is(27, "restore() again", x.restore(), 1);
        due.is(27, "digest() then", x.digest(), before);
        x.few(1, 0);
        x.week(1, 0);
        x.restore();
        due.is(27, "few() was done", x.count(13), 1);
        due.is(27, "week() was done", x.count(14), 1);
        Due.write(x, "p50,");
        x.restore();
        due.is(27, "the page stays", x.count(11), 4);
        x.valley();
        due.is(27, "restore() behind a page that is none", x.restore(), 1);
        x.blank();
        Due.write(x, "p50,b53;2929");
        x.valley();
        due.is(27, "restore() in another valley", x.restore(), STATE);
        due.is(27, "count(2)", x.count(2), 0);
        x.image();
        due.is(27, "restore() in it", x.restore(), 0);
    }

    private static void count() {
        GrudgeRennet x = Due.in("p50,b53,s55;29293");
        x.slight(0, 1);
        x.slight(0, 1);
        x.slight(1, 0);
        x.curdle();
        x.fresh(0);
        x.keep(0, 1);
        x.pour(0, 3);
        kept(x, 3, 2);
        x.slight(0, 0);
        x.slight(1, 2);
        x.see(0, 0, 4);
        x.see(0, 0, 4);
        x.night();
        x.few(1, 0);
        x.few(2, 0);
        x.few(4, 0);
        x.week(1, 0);
        x.week(1, 0);
        Due.write(x, "p50,b");
        // 12 at 0 and 4 at 3: 12, 10, 10, 10, 6 of 2, 9, 2, 9, 3: five set, one of them fresh again. Then 2 at 0,
        // 2 at 3 and the drop of 4 at 3: 2, 0, 2, 6, 2 of these: the first and the third would set.
        int[] want = {3, 5, 4, 4, 2, 1, 1, 1, 6, 5, 2, 5, 1, 3, 2};
        for (int what = 0; what < 15; what++) {
            due.is(28, "count(" + what + ")", x.count(what), want[what]);
        }
        int[] untold = {15, -1, 16, MIN, MAX};
        for (int what : untold) {
            due.is(28, "count(" + what + ")", x.count(what), OUTSIDE);
        }
    }

    private static void digest() {
        GrudgeRennet x = new GrudgeRennet();
        Due.write(x, "p5");
        due.is(29, "digest() of a page", x.digest(), digestOf(x, "p5"));
        x.blank();
        Due.write(x, "p50,b53,m51;29293");
        x.valley();
        due.is(29, "digest() of a valley", x.digest(), digestOf(x, ""));
        x.slight(0, 1);
        x.slight(2, 1);
        kept(x, 2, 0);
        x.slight(2, 1);
        x.slight(1, 1);
        x.see(0, 1, 3);
        x.curdle();
        x.night();
        x.few(1, 0);
        Due.write(x, "~" + (char) 1);
        due.is(29, "digest() of all", x.digest(), digestOf(x, "~" + (char) 1));
        due.is(29, "digest() changes nothing", x.digest(), x.digest());
    }

    private static long digestOf(GrudgeRennet x, String page) {
        long h = 1123;
        for (int i = 0; i < x.count(0); i++) {
            int[] whats = {0, 1, 2, 3, 4, 5, 6, 7, 8, 10, 11, 12};
            for (int what : whats) {
                h = 31 * h + x.person(i, what);
            }
        }
        for (int i = 0; i < x.count(1); i++) {
            for (int what = 0; what <= 6; what++) {
                h = 31 * h + x.pail(i, what);
            }
        }
        if (x.count(0) > 0) {
            for (int place = 0; place <= 5; place++) {
                h = 31 * h + x.force(place);
            }
            for (int bottle = 0; bottle <= 3; bottle++) {
                h = 31 * h + x.bottle(bottle);
            }
            h = 31 * h + x.who(x.would());
        }
        for (char c : page.toCharArray()) {
            h = 31 * h + c;
        }
        for (int what = 0; what <= 14; what++) {
            h = 31 * h + x.count(what);
        }
        return h;
    }
}
