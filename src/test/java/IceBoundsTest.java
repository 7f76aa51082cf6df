/** Section 2 and promises 5 to 12, sentence by sentence: ice, nights, sway and force, a day out, on both sides of each bound. */
final class IceBoundsTest {
    private static final Kit KIT = new Kit();
    /** FORCE 10: two horses, and six men whose beat is two off. */
    private static final String TEN = "b2 6 6 0;";

    public static void main(String[] args) {
        kindsGrow();
        coldOfGrows();
        growsAsItIsNow();
        coldOfNight();
        nightsOfOneCall();
        iceAtMost();
        iceAtLeast();
        nightsAreCounted();
        nightIsFull();
        thawIsFull();
        driftIsFull();
        beatAtFirst();
        beatBounds();
        menLessLaggards();
        swayByBeat();
        swayAtLeast();
        yardWithoutIce();
        sticks();
        ridesUp();
        lockWithIce();
        lastMinute();
        becomesOpen();
        thirdAtNight();
        plainBecomesLumps();
        outWithoutYards();
        drawsOfDrift();
        twelveYards();
        KIT.end();
    }

    private static int iceBehindNight(String text, int cold) {
        IceSway x = Kit.told(text);
        return x.night(cold, 1);
    }

    private static void kindsGrow() {
        KIT.says("20 c / (10 and ICE); of lumps that and a half of it, under a bridge a half of it (each cut)");
        // By COLD 1: ICE 10 is the thickest that still grows, by 1; of that a half is cut to 0.
        growsAre(9, 1, 1, 1, 1, 0);
        growsAre(10, 1, 1, 1, 1, 0);
        growsAre(11, 1, 0, 0, 0, 0);
        // 2 at ICE 0 alone.
        growsAre(0, 1, 2, 3, 2, 1);
        growsAre(1, 1, 1, 1, 1, 0);
        // 60 / 20 is 3, 60 / 21 is 2.
        growsAre(10, 3, 3, 4, 3, 1);
        growsAre(11, 3, 2, 3, 2, 1);
        growsAre(0, 30, 60, 90, 60, 30);
        growsAre(99, 30, 5, 7, 5, 2);
    }

    private static void growsAre(int ice, int cold, int... want) {
        for (int kind = 0; kind < 4; kind++) {
            String text = "y" + kind + " " + ice + ";";
            KIT.due(text + " grows(0, " + cold + ")", Kit.told(text).grows(0, cold), want[kind]);
            KIT.due(text + " night(" + cold + ", 1)", iceBehindNight(text, cold), ice + want[kind]);
        }
    }

    private static void coldOfGrows() {
        KIT.says("What GROWS by a COLD c (0 .. 30)");
        IceSway x = Kit.told("y0 0;");
        KIT.due("grows(0, 0)", x.grows(0, 0), 0);
        KIT.due("grows(0, 1)", x.grows(0, 1), 2);
        KIT.due("grows(0, 30)", x.grows(0, 30), 60);
        KIT.due("grows(0, 31)", x.grows(0, 31), Kit.OUTSIDE);
        KIT.due("grows(0, -1)", x.grows(0, -1), Kit.OUTSIDE);
        KIT.due("grows(1, 5)", x.grows(1, 5), Kit.UNKNOWN);
        KIT.due("grows(-1, 5)", x.grows(-1, 5), Kit.UNKNOWN);
    }

    private static void growsAsItIsNow() {
        KIT.says("What GROWS in a YARD by a NIGHT of COLD c (as it is now).");
        IceSway x = Kit.told("y0 30;b12 20 4 0;");
        KIT.due("with its ice", x.grows(0, 10), 5);
        x.out(999);
        // As it is now it is plain and has no ICE; shut it will have 10 and be lumps, which grow by 15.
        KIT.due("open: plain, without ice", x.grows(0, 10), 20);
        KIT.due("the night itself: shut first", x.night(10, 1), 25);
        KIT.due("then lumps of 25", x.grows(0, 10), 5 + 2);
    }

    private static void coldOfNight() {
        KIT.says("n NIGHTS (1 .. 99) of COLD c: ICE of all YARDS together.");
        KIT.due("night(0, 1)", iceBehindNight("y0 5,1 6;", 0), 11);
        KIT.due("night(1, 1)", iceBehindNight("y0 5,1 6;", 1), 13);
        KIT.due("night(30, 1)", iceBehindNight("y0 5,1 6;", 30), 5 + 40 + 6 + 37 + 18);
        KIT.due("night(31, 1)", iceBehindNight("y0 5,1 6;", 31), Kit.OUTSIDE);
        KIT.due("night(-1, 1)", iceBehindNight("y0 5,1 6;", -1), Kit.OUTSIDE);
        KIT.due("without yards", new IceSway().night(30, 99), 0);
    }

    private static void nightsOfOneCall() {
        KIT.says("n NIGHTS (1 .. 99) of COLD c");
        IceSway x = Kit.told("y0 5,1 6;");
        KIT.due("n 0", x.night(5, 0), Kit.OUTSIDE);
        KIT.due("n 100", x.night(5, 100), Kit.OUTSIDE);
        KIT.due("n -1", x.night(5, -1), Kit.OUTSIDE);
        KIT.due("none has come", x.told(11), 0);
        x.night(5, 1);
        KIT.due("n 1", x.told(11), 1);
        x.night(5, 99);
        KIT.due("n 99", x.told(11), 100);
        IceSway atOnce = Kit.told("y0 0,1 0,2 0,3 0;");
        IceSway oneByOne = Kit.told("y0 0,1 0,2 0,3 0;");
        int last = 0;
        for (int i = 0; i < 99; i++) {
            last = oneByOne.night(9, 1);
        }
        KIT.due("99 at once are 99", atOnce.night(9, 99), last);
    }

    private static void iceAtMost() {
        KIT.says("ICE is 300 at most.");
        for (int kind = 0; kind <= 2; kind++) {
            IceSway x = Kit.told("y" + kind + " 99;");
            for (int i = 0; i < 300 && x.yard(0, 1) < 299; i++) {
                x.night(30, 1);
            }
            KIT.due("299", x.yard(0, 1), 299);
            KIT.due("then 300", x.night(30, 1), 300);
            KIT.due("one more would grow", x.grows(0, 30), 1);
            KIT.due("300 it stays", x.night(30, 1), 300);
            KIT.due("300 it stays by many", x.night(30, 99), 300);
            KIT.due("a thaw takes from 300", x.thaw(1), 299);
        }
        IceSway twelve = Kit.told("y1 99,1 99,1 99,1 99,1 99,1 99,1 99,1 99,1 99,1 99,1 99,1 99;");
        twelve.night(30, 99);
        KIT.due("twelve times 300", twelve.night(30, 99), 3600);
    }

    private static void iceAtLeast() {
        KIT.says("a THAW of d (0 .. 60): so much less (0 at least)");
        IceSway x = Kit.told("y0 59,1 60,2 61,3 0;");
        KIT.due("thaw(-1)", x.thaw(-1), Kit.OUTSIDE);
        KIT.due("thaw(61)", x.thaw(61), Kit.OUTSIDE);
        KIT.due("thaw(0)", x.thaw(0), 180);
        KIT.due("thaw(60)", x.thaw(60), 1);
        int[] want = {0, 0, 1, 0};
        for (int y = 0; y < 4; y++) {
            KIT.due("ice of " + y, x.yard(y, 1), want[y]);
        }
        KIT.due("thaw(1)", x.thaw(1), 0);
        KIT.due("thaw(1) of nothing", x.thaw(1), 0);
    }

    private static void nightsAreCounted() {
        KIT.says("NIGHTS are counted (a THAW is one, too).");
        IceSway x = Kit.told("y0 5;");
        KIT.due("none", x.told(11), 0);
        x.night(0, 1);
        KIT.due("a night", x.told(11), 1);
        x.thaw(0);
        KIT.due("a thaw", x.told(11), 2);
        x.drift(7);
        KIT.due("seven by draws", x.told(11), 9);
        x.out(999);
        KIT.due("a day out is none", x.told(11), 9);
    }

    private static IceSway withNights(int nights) {
        IceSway x = Kit.told("y0 5;");
        Kit.passNights(x, nights);
        KIT.due("nights so far", x.told(11), nights);
        return x;
    }

    private static void nightIsFull() {
        KIT.says("FULL: NIGHTS are above 9000 as it is called (n may pass that).");
        for (int nights : new int[] {8999, 9000}) {
            IceSway one = withNights(nights);
            KIT.due("one night", one.night(0, 1), 5);
            KIT.due("is counted", one.told(11), nights + 1);
            IceSway many = withNights(nights);
            KIT.due("99 nights", many.night(0, 99), 5);
            KIT.due("all are counted", many.told(11), nights + 99);
            KIT.due("then it is full", many.night(0, 1), Kit.FULL);
        }
        IceSway full = withNights(9001);
        KIT.due("9001, one night", full.night(1, 1), Kit.FULL);
        KIT.due("9001, 99 nights", full.night(1, 99), Kit.FULL);
        KIT.due("ice as it was", full.yard(0, 1), 5);
        KIT.due("nights as they were", full.told(11), 9001);
    }

    private static void thawIsFull() {
        KIT.says("OUTSIDE, FULL: NIGHTS are above 9000.");
        IceSway x = withNights(8999);
        KIT.due("at 8999", x.thaw(1), 4);
        KIT.due("at 9000", x.thaw(1), 3);
        KIT.due("at 9001", x.thaw(1), Kit.FULL);
        KIT.due("ice as it was", x.yard(0, 1), 3);
        KIT.due("nights as they were", x.told(11), 9001);
        KIT.due("a day out may be yet", x.out(999), 1);
        KIT.due("what is open stays so", x.thaw(0), Kit.FULL);
        KIT.due("open", x.told(15), 1);
        Kit.feedAll(x, "y0 5;");
        KIT.due("a new cut", x.cut(), 1);
        KIT.due("begins with no nights", x.thaw(1), 4);
    }

    private static void driftIsFull() {
        KIT.says("FULL: NIGHTS are above 9000 as it is called (n may pass that).");
        IceSway x = withNights(9000);
        x.keep(0);
        KIT.taken("drift(99) at 9000", x.drift(99));
        KIT.due("all are counted", x.told(11), 9099);
        x.goBack(0);
        KIT.taken("drift(1) at 9000", x.drift(1));
        KIT.due("it is counted", x.told(11), 9001);
        int seed = x.seed(9);
        KIT.due("drift(1) at 9001", x.drift(1), Kit.FULL);
        KIT.due("nothing was drawn", x.seed(seed), 9);
        KIT.due("nights as they were", x.told(11), 9001);
        x.goBack(0);
        KIT.taken("9000 again by an image", x.night(0, 1));
    }

    private static void beatAtFirst() {
        KIT.says("BEAT is 4 at first.");
        KIT.due("of a new object", new IceSway().told(12), 4);
        IceSway x = Kit.told("y0 5;b1 1 9 0;");
        KIT.due("of a cut, whatever its swing", x.told(12), 4);
        x.beat(9);
        KIT.due("nine", x.told(12), 9);
        Kit.feedAll(x, "y0 5;");
        x.cut();
        KIT.due("of the next cut", x.told(12), 4);
    }

    private static void beatBounds() {
        KIT.says("BEAT becomes b (1 .. 9): FORCE then. OUTSIDE.");
        IceSway x = Kit.told("y0 5;b1 9 2 0;");
        KIT.due("beat(1)", x.beat(1), 13);
        KIT.due("beat(0)", x.beat(0), Kit.OUTSIDE);
        KIT.due("still 1", x.told(12), 1);
        KIT.due("beat(9)", x.beat(9), 7);
        KIT.due("beat(10)", x.beat(10), Kit.OUTSIDE);
        KIT.due("still 9", x.told(12), 9);
        KIT.due("beat(2)", x.beat(2), 31);
    }

    private static void swayIs(String boat, int beat, int sway) {
        IceSway x = Kit.told("y0 0;" + boat);
        KIT.due(boat + " beat(" + beat + ")", x.beat(beat), 4 * x.told(1) + sway);
        KIT.due(boat + " sway by " + beat, x.told(13), sway);
        KIT.due(boat + " force by " + beat, x.told(14), 4 * x.told(1) + sway);
    }

    private static void menLessLaggards() {
        KIT.says("SWAY: MEN less LAGGARDS (0 at least)");
        swayIs("b1 0 5 0;", 5, 0);
        swayIs("b1 1 5 0;", 5, 3);
        swayIs("b1 1 5 1;", 5, 0);
        swayIs("b1 0 5 20;", 5, 0);
        swayIs("b12 20 5 20;", 5, 0);
        swayIs("b12 20 5 19;", 5, 0);
        swayIs("b3 2 5 1;", 5, 1);
    }

    private static void swayByBeat() {
        KIT.says("times 3, if BEAT is SWING; times 1, if they differ by one; else a third of them (cut)");
        swayIs("b1 20 5 0;", 5, 60);
        swayIs("b1 20 5 0;", 4, 20);
        swayIs("b1 20 5 0;", 6, 20);
        swayIs("b1 20 5 0;", 3, 6);
        swayIs("b1 20 5 0;", 7, 6);
        swayIs("b1 20 9 0;", 1, 6);
        swayIs("b1 20 2 0;", 1, 20);
        swayIs("b1 20 2 0;", 2, 60);
        swayIs("b1 20 2 0;", 9, 6);
        swayIs("b1 20 9 0;", 9, 60);
        swayIs("b1 2 5 0;", 1, 0);
        swayIs("b1 3 5 0;", 1, 1);
        swayIs("b1 5 5 0;", 1, 1);
        swayIs("b1 6 5 0;", 1, 2);
    }

    private static void swayAtLeast() {
        KIT.says("of each of these less 2 for each LAGGARD (0 at least, together)");
        // BEAT is SWING: 3 (M - L) - 2 L.
        swayIs("b2 10 5 5;", 5, 5);
        swayIs("b2 10 5 6;", 5, 0);
        swayIs("b2 5 5 3;", 5, 0);
        swayIs("b2 9 5 5;", 5, 2);
        // They differ by one: M - 3 L.
        swayIs("b2 10 5 3;", 4, 1);
        swayIs("b2 9 5 3;", 4, 0);
        swayIs("b2 8 5 3;", 4, 0);
        // Else: (M - L) / 3 - 2 L.
        swayIs("b2 10 5 1;", 1, 1);
        swayIs("b2 9 5 1;", 1, 0);
        swayIs("b2 6 5 1;", 1, 0);
        swayIs("b2 20 5 2;", 1, 2);
    }

    /** Behind it in so many minutes, and not in one less. */
    private static void takes(String yard, String rest, int minutes) {
        String text = "y" + yard + ";" + rest;
        KIT.due(text + " in " + minutes, Kit.told(text).out(minutes), 1);
        KIT.due(text + " minutes", Kit.told(text).today(999, 1), minutes);
        if (minutes > 1) {
            KIT.due(text + " in " + (minutes - 1), Kit.told(text).out(minutes - 1), 0);
        }
    }

    private static void yardWithoutIce() {
        KIT.says("a YARD without ICE takes 1 minute");
        for (int kind = 0; kind <= 3; kind++) {
            takes(kind + " 0", TEN + "g60 99;", 1);
            takes(kind + " 1", TEN + "g60 0;", 2);
        }
    }

    private static void sticks() {
        KIT.says("ICE above 2 times FORCE: THE BOAT sticks there: it is over (ICE of that YARD stays).");
        takes("0 20", TEN, 42);
        IceSway x = Kit.told("y0 0,0 21,0 0;" + TEN);
        KIT.due("it sticks", x.out(999), 1);
        KIT.due("its ice stays", x.yard(1, 1), 21);
        KIT.due("nothing is open", x.told(15), 0);
        KIT.due("the minutes of what is behind it", x.today(999, 1), 1);
        IceSway y = Kit.told("y0 20,0 20,0 0;" + TEN);
        KIT.due("it does not stick", y.out(999), 3);
        KIT.due("both are open", y.told(15), 3);
        IceSway first = Kit.told("y0 21;" + TEN);
        KIT.due("it sticks in the first", first.out(999), 0);
        KIT.due("no minutes", first.today(999, 1), 0);
        // The least FORCE is 4.
        KIT.due("FORCE 4, ICE 8", Kit.told("y0 8;b1 0 2 0;").out(999), 1);
        KIT.due("FORCE 4, ICE 9", Kit.told("y0 9;b1 0 2 0;").out(999), 0);
    }

    private static void ridesUp() {
        KIT.says("ICE above FORCE: it rides up: 2 times (1 and 10 ICE / FORCE) minutes; else 1 and 10 ICE / FORCE.");
        takes("0 9", TEN, 10);
        takes("0 10", TEN, 11);
        takes("0 11", TEN, 24);
        takes("0 19", TEN, 40);
        // FORCE 4: 10 ICE / FORCE is cut ahead of the doubling.
        takes("0 3", "b1 0 2 0;", 1 + 7);
        takes("0 4", "b1 0 2 0;", 1 + 10);
        takes("0 5", "b1 0 2 0;", 2 * (1 + 12));
        takes("0 7", "b1 0 2 0;", 2 * (1 + 17));
        takes("0 8", "b1 0 2 0;", 2 * (1 + 20));
        // FORCE 108, the greatest: 10 / 108 is 0.
        takes("0 1", "b12 20 4 0;", 1);
        takes("0 10", "b12 20 4 0;", 1);
        takes("0 11", "b12 20 4 0;", 2);
    }

    private static void lockWithIce() {
        KIT.says("A lock with ICE: A more.");
        takes("2 0", TEN + "g60 99;", 1);
        takes("2 1", TEN + "g60 99;", 2 + 99);
        takes("2 1", TEN + "g60 0;", 2);
        takes("2 1", TEN + "g60 1;", 3);
        takes("2 10", TEN + "g60 7;", 11 + 7);
        takes("2 11", TEN + "g60 7;", 24 + 7);
        takes("2 20", TEN, 42 + 20);
        KIT.due("it sticks in a lock, too", Kit.told("y2 21;" + TEN).out(999), 0);
        for (int kind : new int[] {0, 1, 3}) {
            takes(kind + " 10", TEN + "g60 99;", 11);
        }
    }

    private static void lastMinute() {
        KIT.says("A YARD that would be behind it later than at the day's last minute t is not begun: it is over.");
        IceSway x = Kit.told("y0 10,0 0,2 10,0 0;" + TEN + "g60 5;");
        int[] ends = {11, 12, 28, 29};
        for (int y = 0; y < ends.length; y++) {
            KIT.due("at the last minute " + ends[y], x.today(ends[y], 0), y + 1);
            KIT.due("one minute short", x.today(ends[y] - 1, 0), y);
        }
        KIT.due("out(27)", x.out(27), 2);
        KIT.due("not begun: its ice stays", x.yard(2, 1), 10);
        KIT.due("not begun: not open", x.told(15), 1);
        KIT.due("it is over, though the next would take 1 minute", x.today(17, 0), 2);
        KIT.says("A DAY OUT of t minutes (1 .. 999): how many YARDS are behind it.");
        KIT.due("out(0)", x.out(0), Kit.OUTSIDE);
        KIT.due("out(1000)", x.out(1000), Kit.OUTSIDE);
        KIT.due("out(1)", x.out(1), 1);
        KIT.due("out(999)", x.out(999), 4);
        // Nine locks of 42 and 57 minutes each, one of 11 and 57, 30 more: 989. Then 10 or 11.
        String eleven = "y2 20,2 20,2 20,2 20,2 20,2 20,2 20,2 20,2 20,2 10,0 14,0 ";
        KIT.due("behind it at minute 999", Kit.told(eleven + "9;" + TEN + "g60 57;").out(999), 12);
        KIT.due("behind it at minute 1000", Kit.told(eleven + "10;" + TEN + "g60 57;").out(999), 11);
    }

    private static void becomesOpen() {
        KIT.says("Then a YARD that had ICE is OPEN (ICE 0; one without ICE does not become OPEN by it), and each is behind it.");
        IceSway x = Kit.told("y0 1,0 0,3 9,2 0;" + TEN);
        KIT.due("out", x.out(999), 4);
        KIT.due("open", x.told(15), 1 + 4);
        int[] broken = {1, 0, 9, 0};
        for (int y = 0; y < 4; y++) {
            KIT.due("ice of " + y, x.yard(y, 1), 0);
            KIT.due("broken of " + y, x.yard(y, 2), broken[y]);
        }
        KIT.due("a second day takes a minute a yard", x.today(999, 1), 4);
        KIT.due("out again", x.out(999), 4);
        KIT.due("open as it was", x.told(15), 1 + 4);
        KIT.due("what was broken there last", x.yard(2, 2), 9);
    }

    private static void thirdAtNight() {
        KIT.says("At night (with the next NIGHT or THAW, ahead of it) each OPEN YARD has a third of the ICE that was broken there (cut)");
        int[] third = {0, 0, 0, 1, 1, 1, 2};
        for (int ice = 1; ice < third.length; ice++) {
            IceSway byNight = Kit.told("y3 " + ice + ";");
            byNight.out(999);
            KIT.due("ice " + ice + ", a night", byNight.night(0, 1), third[ice]);
            IceSway byThaw = Kit.told("y3 " + ice + ";");
            byThaw.out(999);
            KIT.due("ice " + ice + ", a thaw", byThaw.thaw(0), third[ice]);
        }
        IceSway x = Kit.told("y3 90,3 9,3 0;b12 20 4 0;");
        x.out(9);
        KIT.due("one is open", x.told(15), 1);
        KIT.due("the third, less the thaw", x.thaw(29), 1);
        KIT.due("what was not open", x.yard(1, 1), 0);
        KIT.due("none is open", x.told(15), 0);
        KIT.due("nothing is broken", x.yard(0, 2), 0);
        IceSway once = Kit.told("y3 90;b12 20 4 0;");
        once.out(999);
        KIT.due("it has a third once", once.night(0, 3), 30);
        KIT.due("and no third of the third", once.night(0, 1), 30);
        IceSway draws = Kit.told("y3 90;b12 20 4 0;");
        draws.out(999);
        // THE SEED 0 draws a THAW of 28.
        KIT.due("by draws, too", draws.drift(1), 30 - 28);
        IceSway twice = Kit.told("y3 90;b12 20 4 0;");
        twice.out(999);
        twice.night(0, 1);
        twice.out(999);
        KIT.due("what was broken there last", twice.yard(0, 2), 30);
        KIT.due("a third of that", twice.night(0, 1), 10);
    }

    private static void plainBecomesLumps() {
        KIT.says("and, if it is plain, becomes lumps.");
        int[] want = {1, 1, 2, 3};
        for (int kind = 0; kind <= 3; kind++) {
            IceSway x = Kit.told("y" + kind + " 3," + kind + " 0;");
            x.out(999);
            KIT.due("by day it is as it was", x.yard(0, 0), kind);
            x.thaw(0);
            KIT.due("kind " + kind + " that was open", x.yard(0, 0), want[kind]);
            KIT.due("kind " + kind + " that was not", x.yard(1, 0), kind);
        }
        IceSway y = Kit.told("y0 30;b12 20 4 0;");
        y.out(999);
        KIT.due("lumps in that same night", y.night(10, 1), 10 + 15);
    }

    private static void outWithoutYards() {
        KIT.says("how many YARDS are behind it. OUTSIDE, NOT: no YARDS.");
        KIT.due("a new object", new IceSway().out(1), Kit.NOT);
        KIT.due("outside first", new IceSway().out(0), Kit.OUTSIDE);
        KIT.due("one yard", Kit.told("y0 0;").out(1), 1);
        IceSway x = Kit.told("y0 0;");
        x.cut();
        KIT.due("behind a cut of nothing", x.out(1), Kit.NOT);
    }

    private static void drawsOfDrift() {
        KIT.says("n nights (1 .. 99) BY DRAWS: ICE of all YARDS together.");
        IceSway x = Kit.told("y0 40;");
        KIT.due("drift(0)", x.drift(0), Kit.OUTSIDE);
        KIT.due("drift(100)", x.drift(100), Kit.OUTSIDE);
        KIT.due("none has come", x.told(11), 0);
        KIT.due("nothing was drawn", x.seed(0), 0);
        x.drift(1);
        KIT.due("one night", x.told(11), 1);
        x.drift(99);
        KIT.due("99 nights", x.told(11), 100);
        IceSway y = Kit.told("y0 40;");
        int last = 0;
        for (int i = 0; i < 100; i++) {
            last = y.drift(1);
        }
        KIT.due("one by one", last, x.yard(0, 1));
        KIT.due("as many draws", y.seed(0), x.seed(0));
    }

    private static void twelveYards() {
        KIT.says("1 to 12 YARDS");
        IceSway x = Kit.told("y0 1,0 2,0 3,0 4,0 5,0 6,0 7,0 8,0 9,0 10,0 11,0 12;b12 20 4 0;");
        KIT.due("keep", x.keep(1), 1);
        KIT.due("a thaw of 1", x.thaw(1), 78 - 12);
        KIT.due("a night of COLD 0", x.night(0, 1), 66);
        KIT.due("back", x.goBack(1), 1);
        // THE SEED 0 draws a THAW of 28.
        KIT.due("by draws", x.drift(1), 0);
        KIT.due("back", x.goBack(1), 1);
        KIT.due("out", x.out(999), 12);
        KIT.due("all are open", x.told(15), 4095);
        KIT.due("a third of each", x.thaw(0), 0 + 0 + 1 + 1 + 1 + 2 + 2 + 2 + 3 + 3 + 3 + 4);
    }
}
