/**
 * The document from its first line to its last, at its own pace: what the tests of bounds leave unquoted, each sentence under
 * its own words, and each promise once by an ordinary input, an edge and a wrong one. The answers here were reckoned apart
 * from the class, most of them by hand.
 */
final class DocumentTest {
    private static final Kit KIT = new Kit();
    // By BEAT 4 FORCE is 20, by BEAT 5 it is 36: the yards take 6, 11, 18, 32 minutes, or 3, 6, 17, 9.
    private static final String FOUR_YARDS = "y0 10,1 20,2 5,3 30;b4 10 5 2;g30 15;c2 20 100;";

    public static void main(String[] args) {
        wholeNumbers();
        numbersFromZero();
        sets();
        refusals();
        billion();
        clauses();
        kindsOfYards();
        aNight();
        force();
        fromHere();
        stringOfBoats();
        mostYardsToTurn();
        daysOut();
        ofABillion();
        draws();
        promises1To7();
        promises8To12();
        promises13To18();
        promises19To22();
        promises23To27();
        promises28To30();
        KIT.end();
    }

    private static IceSway atBeatFive() {
        IceSway x = Kit.told(FOUR_YARDS);
        x.beat(5);
        return x;
    }

    private static void wholeNumbers() {
        KIT.says("All numbers are whole; / cuts towards 0.");
        KIT.due("180 / 21 is 8, and 4", Kit.told("y1 11;").grows(0, 9), 12);
        KIT.due("20 / 11 is 1, and a half of it none", Kit.told("y1 1;").grows(0, 1), 1);
        KIT.due("20 / 11 is 1, a half of it none", Kit.told("y3 1;").grows(0, 1), 0);
    }

    private static void numbersFromZero() {
        KIT.says("What has a number has it from 0 on, as it comes.");
        IceSway x = Kit.told("y3 7,2 8,1 9;");
        KIT.due("the first yard", x.yard(0, 1), 7);
        KIT.due("the last yard", x.yard(2, 1), 9);
        KIT.due("a yard beyond", x.yard(3, 1), Kit.UNKNOWN);
        x.write(0, 6);
        KIT.due("the first entry is wrong", x.judge(), 0);
    }

    private static void sets() {
        KIT.says("A SET is a whole number, bit k for k.");
        IceSway x = Kit.told("y0 1,0 0,0 1,0 1;");
        x.out(999);
        KIT.due("yards 0, 2, 3", x.told(15), 1 + 4 + 8);
        KIT.due("kinds 0, 1, 2, 3", x.kinds(0), 15);
    }

    private static void refusals() {
        KIT.says("UNKNOWN (a YARD, KIND, IMAGE that there is not), OUTSIDE (another number out of its bounds), "
            + "NOT (not now, as told), FULL.");
        IceSway x = Kit.told("y0 1;");
        KIT.due("a yard that there is not", x.yard(1, 0), -1000000001);
        KIT.due("an image that there is not", x.keep(2), -1000000001);
        KIT.due("another number", x.thaw(61), -1000000002);
        KIT.due("not kept", x.goBack(0), -1000000003);
        for (int i = 0; i < 15; i++) {
            x.write(0, 1);
        }
        KIT.due("a sixteenth entry", x.write(0, 1), -1000000004);
    }

    private static void billion() {
        KIT.says("BILLION is 1000000000.");
        KIT.due("no minute", new IceSway().noFall(0, 1000), 1000000000);
    }

    private static void clauses() {
        KIT.says("'b' H M P L ';'");
        toldAre("y0 1;b1 2 3 4;", 1, 2, 3, 4, 60, 20, 3, 10, 50);
        KIT.says("'g' G A ';'");
        toldAre("y0 1;g5 6;", 4, 10, 4, 0, 5, 6, 3, 10, 50);
        KIT.says("'c' S D W ';'");
        toldAre("y0 1;c7 8 9;", 4, 10, 4, 0, 60, 20, 7, 8, 9);
        KIT.says("clauses:");
        toldAre("y0 1;c7 8 9;g5 6;b1 2 3 4;", 1, 2, 3, 4, 5, 6, 7, 8, 9);
        toldAre("y0 1;", 4, 10, 4, 0, 60, 20, 3, 10, 50);
    }

    private static void toldAre(String text, int... numbers) {
        IceSway x = Kit.told(text);
        for (int i = 0; i < numbers.length; i++) {
            KIT.due("told(" + (i + 1) + ") of " + text, x.told(i + 1), numbers[i]);
        }
    }

    private static void kindsOfYards() {
        KIT.says("KINDS: 0 plain; 1 lumps: what grows there is half more; 2 a lock: as plain; "
            + "3 under a bridge: half of what grows.");
        IceSway x = Kit.told("y0 10,1 10,2 10,3 10;");
        int[] grows = {10, 15, 10, 5};
        for (int y = 0; y < 4; y++) {
            KIT.due("kind of yard " + y, x.yard(y, 0), y);
            KIT.due("grows(" + y + ", 10)", x.grows(y, 10), grows[y]);
        }
    }

    private static void aNight() {
        KIT.says("A NIGHT of COLD c: each YARD's ICE is so much more;");
        IceSway x = Kit.told("y0 10,1 10,2 10,3 10;");
        KIT.due("all together", x.night(10, 1), 80);
        int[] ice = {20, 25, 20, 15};
        for (int y = 0; y < 4; y++) {
            KIT.due("ice of yard " + y, x.yard(y, 1), ice[y]);
        }
        // 200 / 30 is 6; 200 / 35 is 5, and 2; 200 / 30; 200 / 25 is 8, a half of it.
        KIT.due("a second one, slower", x.night(10, 1), 26 + 32 + 26 + 19);
    }

    private static void force() {
        KIT.says("FORCE: 4 for each HORSE, and SWAY once.");
        IceSway x = Kit.told("y0 1;b3 7 4 0;");
        KIT.due("SWAY", x.told(13), 21);
        KIT.due("FORCE", x.told(14), 12 + 21);
        KIT.due("without men", Kit.told("y0 1;b12 0 4 0;").told(14), 48);
    }

    private static void fromHere() {
        KIT.says("A DAY OUT from here, from minute 0, yard by yard:");
        IceSway x = atBeatFive();
        KIT.due("one minute too few for the second", x.out(8), 1);
        // The first is without ICE now and takes 1 minute, the second 6.
        KIT.due("the next day, from here again", x.out(7), 2);
        KIT.due("both are open", x.told(15), 3);
        KIT.due("a day more", x.out(2), 2);
        KIT.says("One with ICE:");
        KIT.due("what was broken first stays told", x.yard(0, 2), 10);
    }

    private static void stringOfBoats() {
        KIT.says("STRING: boats follow through the last YARD that it breaks in t minutes,");
        IceSway x = atBeatFive();
        KIT.due("at 4, 8, .. 28 behind it", x.string(999, 4), 7);
        KIT.due("a day that breaks the first yard alone", x.string(3, 4), 7);
        KIT.due("a day that breaks none", x.string(2, 4), Kit.NONE);
    }

    private static void mostYardsToTurn() {
        KIT.says("TURN in t minutes: the most YARDS behind it, so that,");
        IceSway x = atBeatFive();
        // Behind four at 35, through the first again at 39, 36 behind its breaking; behind three at 26: at 29, 26 behind it.
        KIT.due("four are too many", x.turn(999), 3);
        KIT.due("back at 29 of 29", x.turn(29), 3);
        KIT.due("back at 29 of 28", x.turn(28), 2);
        KIT.due("back at 4 of 3", x.turn(3), 0);
    }

    private static void daysOut() {
        KIT.says("a SET of days out: on a day out (from here) it costs D;");
        IceSway x = atBeatFive();
        // COAL of 2 days: out on days 0 and 2 leaves none of five without; one day out leaves day 4 at least.
        KIT.due("cost of days 0 and 2", x.plan(5, 100, 10, 0), 40);
        KIT.due("days 0 and 2", x.plan(5, 100, 10, 1), 5);
        KIT.due("two days need no coal", x.plan(2, 100, 10, 0), 0);
        KIT.due("nor a day out", x.plan(2, 100, 10, 1), 0);
    }

    private static void ofABillion() {
        KIT.says("of a BILLION:");
        // One yard that FORCE 4 just breaks up to ICE 8, in 42 minutes.
        IceSway x = Kit.told("y0 8;b1 0 4 0;");
        KIT.due("a thaw it gets through, a night not", x.odds(1, 30, 1, 37, 999), 370000000);
        KIT.due("thaws alone", x.odds(8, 30, 1, 100, 999), 1000000000);
        KIT.due("nights alone", x.odds(8, 30, 1, 0, 999), 0);
    }

    private static void draws() {
        KIT.says("BY DRAWS: THE SEED (0 at first:");
        KIT.due("at first", new IceSway().seed(5), 0);
        KIT.says("the DRAW of n is it / 65536, left over by n)");
        // 0: a THAW of 21468 left over by 40, which is 28; 9988 by 5 is 3: a NIGHT of 22117 by 31: 14; 3498: a NIGHT of 1.
        IceSway x = Kit.told("y1 30;");
        KIT.due("30 less 28", x.drift(1), 2);
        KIT.due("280 / 12 is 23, and 11", x.drift(1), 36);
        KIT.due("20 / 46 is none", x.drift(1), 36);
        KIT.due("six draws on", x.seed(0), 1109335178);
    }

    private static void promises1To7() {
        KIT.says("`IceSway()`: No YARDS.");
        KIT.due("told(0)", new IceSway().told(0), 0);
        KIT.says("THE TEXT (it is empty then, with a FAULT, too)");
        IceSway x = new IceSway();
        Kit.feedAll(x, "y0 1;x");
        KIT.due("letters", x.told(10), 6);
        KIT.due("a fault", x.cut(), -11);
        KIT.due("its place", x.fault(), 5);
        KIT.due("no letters", x.told(10), 0);
        KIT.due("so the next has no fault", x.cut(), 0);
        Kit.feedAll(x, "y0 1;");
        KIT.due("a sound one", x.cut(), 1);
        KIT.due("no letters", x.told(10), 0);
        toldInOrder();
        KIT.says("Of a YARD: what = 0 KIND, 1 ICE, 2 what was broken there last (if it is OPEN; 0). UNKNOWN, OUTSIDE.");
        IceSway cut = atBeatFive();
        KIT.due("KIND", cut.yard(2, 0), 2);
        KIT.due("ICE", cut.yard(3, 1), 30);
        KIT.due("not OPEN", cut.yard(3, 2), 0);
        cut.out(999);
        KIT.due("broken there", cut.yard(3, 2), 30);
        cut.thaw(0);
        KIT.due("shut again", cut.yard(3, 2), 0);
        KIT.due("yard(4, 3)", cut.yard(4, 3), Kit.UNKNOWN);
        KIT.due("yard(0, 3)", cut.yard(0, 3), Kit.OUTSIDE);
        KIT.says("(as it is now). UNKNOWN, OUTSIDE.");
        // Behind the thaw of 0 it is lumps of 3: 200 / 13 is 15, and 7.
        KIT.due("grows(0, 10)", cut.grows(0, 10), 22);
        KIT.due("grows(0, 0)", cut.grows(0, 0), 0);
        KIT.due("grows(-1, 31)", cut.grows(-1, 31), Kit.UNKNOWN);
        KIT.due("grows(0, 31)", cut.grows(0, 31), Kit.OUTSIDE);
    }

    private static void toldInOrder() {
        KIT.says("0 YARDS, 1 HORSES, 2 MEN, 3 SWING, 4 LAGGARDS, 5 G, 6 A, 7 S, 8 D, 9 W, 10 letters of THE TEXT, 11 NIGHTS, "
            + "12 BEAT, 13 SWAY, 14 FORCE, 15 OPEN YARDS (a SET), 16 how many were BORED, 17 entries of THE BOOK. OUTSIDE.");
        IceSway x = atBeatFive();
        x.night(0, 6);
        x.out(25);
        x.bore(0, 0, 0, 0);
        x.write(0, 0);
        x.write(1, 0);
        x.feed('y');
        int[] want = {4, 4, 10, 5, 2, 30, 15, 2, 20, 100, 1, 6, 5, 20, 36, 3, 1, 2};
        for (int what = 0; what < want.length; what++) {
            KIT.due("told(" + what + ")", x.told(what), want[what]);
        }
        KIT.due("told(18)", x.told(18), Kit.OUTSIDE);
        KIT.due("told(-1)", x.told(-1), Kit.OUTSIDE);
    }

    private static void promises8To12() {
        KIT.says("ICE of all YARDS together. OUTSIDE, FULL: NIGHTS are above 9000 as it is called");
        IceSway x = atBeatFive();
        KIT.due("night(10, 1)", x.night(10, 1), 20 + 29 + 18 + 32);
        KIT.due("night(31, 1)", x.night(31, 1), Kit.OUTSIDE);
        KIT.due("night(10, 0)", x.night(10, 0), Kit.OUTSIDE);
        KIT.due("drift(0)", x.drift(0), Kit.OUTSIDE);
        KIT.says("A THAW: ICE of all YARDS together.");
        KIT.due("thaw(20)", x.thaw(20), 0 + 9 + 0 + 12);
        KIT.due("thaw(61)", x.thaw(61), Kit.OUTSIDE);
        KIT.due("both were nights", x.told(11), 2);
        KIT.says("BEAT becomes b (1 .. 9): FORCE then.");
        KIT.due("beat(6)", x.beat(6), 20);
        KIT.due("beat(10)", x.beat(10), Kit.OUTSIDE);
        KIT.says("A DAY OUT of t minutes (1 .. 999): how many YARDS are behind it.");
        // By FORCE 20: 1, 1 and 90 / 20, 1, 1 and 120 / 20.
        KIT.due("out(13)", x.out(13), 3);
        KIT.due("out(1000)", x.out(1000), Kit.OUTSIDE);
        KIT.due("yard 1 alone had ice", x.told(15), 2);
        KIT.due("out(5) without yards", new IceSway().out(5), Kit.NOT);
        fullNights();
    }

    private static void fullNights() {
        KIT.says("FULL: NIGHTS are above 9000");
        IceSway x = Kit.told("y0 5;");
        Kit.passNights(x, 9000);
        KIT.due("9000 are not above", x.thaw(1), 4);
        KIT.due("9001 are: night(0, 1)", x.night(0, 1), Kit.FULL);
        KIT.due("thaw(1)", x.thaw(1), Kit.FULL);
        KIT.due("drift(1)", x.drift(1), Kit.FULL);
    }

    private static void promises13To18() {
        IceSway x = atBeatFive();
        KIT.says("TODAY: what = 0 YARDS, 1 minutes. OUTSIDE.");
        KIT.due("today(34, 0)", x.today(34, 0), 3);
        KIT.due("today(34, 1)", x.today(34, 1), 26);
        KIT.due("today(35, 0)", x.today(35, 0), 4);
        KIT.due("today(35, 2)", x.today(35, 2), Kit.OUTSIDE);
        KIT.says("`int bestBeat()`: BEST BEAT.");
        KIT.due("bestBeat()", x.bestBeat(), 5);
        KIT.due("without men", Kit.told("y0 1;b1 0 9 0;").bestBeat(), 1);
        KIT.says("LAGGARDS that kill it; NONE. OUTSIDE.");
        // By four of them FORCE is 26: 4, 8, 17, 24 minutes; by five it is 21: 5, 10, 18, 30.
        KIT.due("laggards(53)", x.laggards(53), 5);
        KIT.due("laggards(52)", x.laggards(52), 4);
        KIT.due("laggards(0)", x.laggards(0), Kit.OUTSIDE);
        KIT.due("without ice", Kit.told("y0 0;").laggards(1), Kit.NONE);
        KIT.says("HORSES; NONE. OUTSIDE.");
        // By one FORCE is 24: 5, 9, 18, 26 minutes; by two it is 28: 4, 8, 17, 22.
        KIT.due("horses(58)", x.horses(58), 1);
        KIT.due("horses(57)", x.horses(57), 2);
        KIT.due("horses(1)", x.horses(1), Kit.NONE);
        KIT.due("horses(1000)", x.horses(1000), Kit.OUTSIDE);
        KIT.says("STRING; NONE. OUTSIDE.");
        KIT.due("string(35, 29)", x.string(35, 29), 1);
        KIT.due("string(35, 30)", x.string(35, 30), 0);
        KIT.due("string(1, 30)", x.string(1, 30), Kit.NONE);
        KIT.due("string(35, 100)", x.string(35, 100), Kit.OUTSIDE);
        KIT.says("TURN. OUTSIDE.");
        KIT.due("turn(4)", x.turn(4), 1);
        KIT.due("turn(0)", x.turn(0), Kit.OUTSIDE);
    }

    private static void promises19To22() {
        IceSway x = atBeatFive();
        KIT.says("PLAN: what = 0 cost, 1 SET. OUTSIDE, NOT: no YARDS.");
        // Out on day 0 or on day 1 the third day has COAL; day 0 is the lesser SET.
        KIT.due("plan(3, 100, 10, 0)", x.plan(3, 100, 10, 0), 20);
        KIT.due("plan(3, 100, 10, 1)", x.plan(3, 100, 10, 1), 1);
        KIT.due("plan(9, 100, 10, 1)", x.plan(9, 100, 10, 1), Kit.OUTSIDE);
        KIT.due("plan(1, 100, 10, 1) without yards", new IceSway().plan(1, 100, 10, 1), Kit.NOT);
        KIT.says("LOST; NONE. OUTSIDE.");
        // 35 minutes, 45 behind one night, 51 behind two, 68 behind three.
        KIT.due("lost(10, 34)", x.lost(10, 34), 0);
        KIT.due("lost(10, 45)", x.lost(10, 45), 2);
        KIT.due("lost(10, 67)", x.lost(10, 67), 3);
        KIT.due("lost(0, 35)", x.lost(0, 35), Kit.NONE);
        KIT.due("lost(31, 35)", x.lost(31, 35), Kit.OUTSIDE);
        KIT.says("ODDS (q 0 .. 100). OUTSIDE.");
        KIT.due("35 minutes, but 45 behind a night", x.odds(1, 10, 0, 1, 44), 10000000);
        KIT.due("as it is, or behind a night", x.odds(1, 10, 0, 1, 45), 1000000000);
        KIT.due("q 101", x.odds(1, 10, 0, 101, 45), Kit.OUTSIDE);
        KIT.says("NO FALL (q 0 .. 1000). OUTSIDE.");
        KIT.due("four horses, one minute", x.noFall(1, 500), 62500000);
        KIT.due("q 1001", x.noFall(1, 1001), Kit.OUTSIDE);
    }

    private static void promises23To27() {
        IceSway x = atBeatFive();
        KIT.says("BORED: how much. UNKNOWN, OUTSIDE, FULL (10).");
        KIT.due("bore(0, 1, 10, 20)", x.bore(0, 1, 10, 20), 1);
        KIT.due("bore(0, 1, 10, 301)", x.bore(0, 1, 10, 301), Kit.OUTSIDE);
        KIT.due("bore(4, 1, 10, 301)", x.bore(4, 1, 10, 301), Kit.UNKNOWN);
        KIT.says("KINDS. UNKNOWN.");
        KIT.due("plain or a lock", x.kinds(0), 1 + 4);
        KIT.due("any, where nothing was bored", x.kinds(1), 15);
        KIT.due("kinds(4)", x.kinds(4), Kit.UNKNOWN);
        KIT.says("An entry behind THE BOOK (0 .. 300): how many.");
        KIT.due("write(0, 10)", x.write(0, 10), 1);
        KIT.due("write(1, 21)", x.write(1, 21), 2);
        KIT.due("write(1, 301)", x.write(1, 301), Kit.OUTSIDE);
        KIT.says("WRONG; NONE.");
        KIT.due("judge()", x.judge(), 1);
        KIT.says("Nothing BORED, THE BOOK is empty: how many both had.");
        KIT.due("tear()", x.tear(), 3);
        KIT.due("tear() again", x.tear(), 0);
        KIT.due("judge() of none", x.judge(), Kit.NONE);
        KIT.due("kinds(0)", x.kinds(0), 15);
    }

    private static void promises28To30() {
        IceSway x = atBeatFive();
        KIT.says("THE SEED becomes v (0 .. 2147483647): what it was. OUTSIDE.");
        KIT.due("seed(2147483647)", x.seed(2147483647), 0);
        KIT.due("seed(-1)", x.seed(-1), Kit.OUTSIDE);
        KIT.due("seed(7)", x.seed(7), 2147483647);
        KIT.says("IMAGE i becomes what is so: 1. UNKNOWN.");
        KIT.due("keep(1)", x.keep(1), 1);
        KIT.due("keep(-1)", x.keep(-1), Kit.UNKNOWN);
        x.beat(9);
        x.out(999);
        x.night(30, 5);
        x.seed(8);
        KIT.says("What is so becomes IMAGE i: 1. UNKNOWN, NOT: it was not kept.");
        KIT.due("goBack(0)", x.goBack(0), Kit.NOT);
        KIT.due("goBack(2)", x.goBack(2), Kit.UNKNOWN);
        KIT.due("goBack(1)", x.goBack(1), 1);
        KIT.due("BEAT", x.told(12), 5);
        KIT.due("NIGHTS", x.told(11), 0);
        KIT.due("KIND", x.yard(0, 0), 0);
        KIT.due("ICE", x.yard(0, 1), 10);
        KIT.due("nothing OPEN", x.told(15), 0);
        KIT.due("THE SEED", x.seed(0), 7);
    }
}
