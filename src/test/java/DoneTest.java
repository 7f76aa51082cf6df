/** Promises 8 to 12: night, thaw, beat, out, drift. */
final class DoneTest {
    private static final Kit KIT = new Kit();

    public static void main(String[] args) {
        night();
        thaw();
        nightsAreFull();
        beat();
        outMinutes();
        outOpensAndShuts();
        outStops();
        outRefused();
        twelveYards();
        drift();
        KIT.end();
    }

    private static void night() {
        IceSway x = Kit.told("y0 0,1 0,2 0,3 0;");
        KIT.due("night(7, 1)", x.night(7, 1), 14 + 21 + 14 + 7);
        KIT.due("lumps", x.yard(1, 1), 21);
        KIT.due("night(7, 2)", x.night(7, 2), 14 + 5 + 4 + 21 + 6 + 4 + 14 + 5 + 4 + 7 + 4 + 3);
        KIT.due("nights", x.told(11), 3);
        KIT.due("night(0, 99)", x.night(0, 99), 91);
        KIT.due("nights", x.told(11), 102);
        KIT.due("night(31, 1)", x.night(31, 1), Kit.OUTSIDE);
        KIT.due("night(-1, 1)", x.night(-1, 1), Kit.OUTSIDE);
        KIT.due("night(5, 0)", x.night(5, 0), Kit.OUTSIDE);
        KIT.due("night(5, 100)", x.night(5, 100), Kit.OUTSIDE);
        KIT.due("what is refused changes nothing", x.told(11), 102);
        x.night(30, 99);
        x.night(30, 99);
        KIT.due("ice is 300 at most", x.night(30, 99), 300 + 300 + 300 + x.yard(3, 1));
        KIT.due("a bridge stops where a half of what grows is 0", x.yard(3, 1), 291);
        KIT.due("a bridge grows no more", x.grows(3, 30), 0);
    }

    private static void thaw() {
        IceSway x = Kit.told("y0 10,3 61;");
        KIT.due("thaw(0)", x.thaw(0), 71);
        KIT.due("thaw(11)", x.thaw(11), 50);
        KIT.due("0 at least", x.yard(0, 1), 0);
        KIT.due("thaw(61)", x.thaw(61), Kit.OUTSIDE);
        KIT.due("thaw(-1)", x.thaw(-1), Kit.OUTSIDE);
        KIT.due("a thaw is a night, too", x.told(11), 2);
        KIT.due("thaw(60)", x.thaw(60), 0);

        IceSway y = Kit.told("y0 60,2 60;b12 20 4 0;");
        y.out(999);
        KIT.due("a thaw shuts first, too", y.thaw(7), 26);
        KIT.due("plain becomes lumps", y.yard(0, 0), 1);
        KIT.due("a lock stays", y.yard(1, 0), 2);
    }

    private static void nightsAreFull() {
        IceSway x = Kit.told("y0 5;");
        for (int i = 0; i < 90; i++) {
            x.night(0, 99);
        }
        x.night(0, 90);
        KIT.due("nights", x.told(11), 9000);
        KIT.due("at 9000 a thaw is no night too many", x.thaw(0), 5);
        KIT.due("nights", x.told(11), 9001);
        KIT.due("thaw above 9000", x.thaw(5), Kit.FULL);
        KIT.due("night above 9000", x.night(5, 1), Kit.FULL);
        KIT.due("drift above 9000", x.drift(1), Kit.FULL);
        KIT.due("thaw, outside first", x.thaw(61), Kit.OUTSIDE);
        KIT.due("night, outside first", x.night(5, 0), Kit.OUTSIDE);
        KIT.due("drift, outside first", x.drift(100), Kit.OUTSIDE);
        KIT.due("nothing changed", x.yard(0, 1), 5);
        KIT.due("nothing changed", x.told(11), 9001);
        KIT.due("the seed as it was", x.seed(0), 0);

        IceSway y = Kit.told("y0 5;");
        for (int i = 0; i < 90; i++) {
            y.night(0, 99);
        }
        y.night(0, 90);
        y.keep(0);
        y.night(0, 99);
        KIT.due("n may pass 9000 by night", y.told(11), 9099);
        y.goBack(0);
        y.drift(99);
        KIT.due("n may pass 9000 by drift", y.told(11), 9099);
    }

    private static void beat() {
        IceSway x = Kit.told("y0 5;b4 10 5 2;");
        int[] force = {16, 16, 16, 20, 36, 20, 16, 16, 16};
        for (int b = 1; b <= 9; b++) {
            KIT.due("beat(" + b + ")", x.beat(b), force[b - 1]);
            KIT.due("told(12)", x.told(12), b);
        }
        KIT.due("beat(0)", x.beat(0), Kit.OUTSIDE);
        KIT.due("beat(10)", x.beat(10), Kit.OUTSIDE);
        KIT.due("still 9", x.told(12), 9);
    }

    /** One yard, so that the minutes of it can be seen by the day's last minute. */
    private static void outMinutes() {
        // FORCE is 10: 2 horses, and 6 men by a beat that is 2 off.
        minutesAre("y0 0;b2 6 6 0;", 1);
        minutesAre("y2 0;b2 6 6 0;g60 20;", 1);
        minutesAre("y0 1;b2 6 6 0;", 2);
        minutesAre("y0 10;b2 6 6 0;", 11);
        minutesAre("y0 11;b2 6 6 0;", 24);
        minutesAre("y0 20;b2 6 6 0;", 42);
        minutesAre("y1 20;b2 6 6 0;g60 20;", 42);
        minutesAre("y3 20;b2 6 6 0;g60 20;", 42);
        minutesAre("y2 20;b2 6 6 0;g60 20;", 62);
        minutesAre("y2 10;b2 6 6 0;g60 0;", 11);
        minutesAre("y2 10;b2 6 6 0;g60 99;", 110);
        IceSway stuck = Kit.told("y0 21;b2 6 6 0;");
        KIT.due("it sticks", stuck.out(999), 0);
        KIT.due("its ice stays", stuck.yard(0, 1), 21);
        KIT.due("it is not open", stuck.told(15), 0);
    }

    private static void minutesAre(String text, int minutes) {
        if (minutes > 1) {
            KIT.due(text + " out(" + (minutes - 1) + ")", Kit.told(text).out(minutes - 1), 0);
        }
        KIT.due(text + " out(" + minutes + ")", Kit.told(text).out(minutes), 1);
        KIT.due(text + " today", Kit.told(text).today(999, 1), minutes);
    }

    private static void outOpensAndShuts() {
        IceSway x = Kit.told("y0 20,1 19,2 18,3 17,0 0,1 2,2 0;b12 20 4 0;");
        KIT.due("out", x.out(999), 7);
        KIT.due("open", x.told(15), 1 + 2 + 4 + 8 + 32);
        KIT.due("a second day breaks nothing", x.out(999), 7);
        KIT.due("open as it was", x.told(15), 1 + 2 + 4 + 8 + 32);
        KIT.due("the kind waits for the night", x.yard(0, 0), 0);
        KIT.due("night(0, 1)", x.night(0, 1), 6 + 6 + 6 + 5);
        int[] kinds = {1, 1, 2, 3, 0, 1, 2};
        int[] ice = {6, 6, 6, 5, 0, 0, 0};
        for (int y = 0; y < kinds.length; y++) {
            KIT.due("kind of " + y, x.yard(y, 0), kinds[y]);
            KIT.due("ice of " + y, x.yard(y, 1), ice[y]);
            KIT.due("broken of " + y, x.yard(y, 2), 0);
        }
        KIT.due("none open", x.told(15), 0);
        KIT.due("it shuts once", x.night(0, 2), 23);

        IceSway thin = Kit.told("y0 1;");
        thin.out(1);
        KIT.due("ICE of 1 is broken, too", thin.told(15), 1);
        KIT.due("nothing of it is left at night", thin.thaw(0), 0);
        KIT.due("but lumps", thin.yard(0, 0), 1);

        IceSway y = Kit.told("y0 30;b12 20 4 0;");
        y.out(999);
        KIT.due("lumps grow in the same night", y.night(10, 1), 10 + 10 + 5);
    }

    private static void outStops() {
        IceSway x = Kit.told("y0 10,0 0,0 99,0 0;b2 6 6 0;");
        KIT.due("it sticks in yard 2", x.out(999), 2);
        KIT.due("open", x.told(15), 1);
        KIT.due("ice there", x.yard(2, 1), 99);
        IceSway y = Kit.told("y0 10,0 10,0 0;b2 6 6 0;");
        KIT.due("no time for yard 1", y.out(21), 1);
        KIT.due("yard 1 is not begun", y.yard(1, 1), 10);
        KIT.due("then it is free for yard 0", y.out(12), 2);
        KIT.due("both open", y.told(15), 3);
    }

    private static void twelveYards() {
        IceSway x = Kit.told("y0 1,0 2,0 3,0 4,0 5,0 6,0 7,0 8,0 9,0 10,0 11,0 12;b12 20 4 0;");
        KIT.due("all twelve grow nothing", x.night(0, 1), 78);
        KIT.due("keep", x.keep(0), 1);
        KIT.due("all twelve thaw", x.thaw(1), 66);
        KIT.due("back", x.goBack(0), 1);
        KIT.due("out", x.out(999), 12);
        KIT.due("all open", x.told(15), 4095);
        KIT.due("a third of each", x.night(0, 1), 0 + 0 + 1 + 1 + 1 + 2 + 2 + 2 + 3 + 3 + 3 + 4);
        KIT.due("the last is lumps", x.yard(11, 0), 1);
        KIT.due("a yard 12 there is not", x.yard(12, 0), Kit.UNKNOWN);
    }

    private static void outRefused() {
        IceSway x = new IceSway();
        KIT.due("out(1) without yards", x.out(1), Kit.NOT);
        KIT.due("out(0) without yards", x.out(0), Kit.OUTSIDE);
        IceSway y = Kit.told("y0 0;");
        KIT.due("out(0)", y.out(0), Kit.OUTSIDE);
        KIT.due("out(-5)", y.out(-5), Kit.OUTSIDE);
        KIT.due("out(1000)", y.out(1000), Kit.OUTSIDE);
        KIT.due("out(1)", y.out(1), 1);
    }

    /** The same draws, made by hand and done by night and thaw. */
    private static void driftNightByNight() {
        IceSway drifts = Kit.told("y0 40,1 30,2 20,3 10;");
        IceSway byHand = Kit.told("y0 40,1 30,2 20,3 10;");
        drifts.out(20);
        byHand.out(20);
        drifts.seed(20261118);
        long seed = 20261118;
        int thaws = 0;
        for (int i = 0; i < 60; i++) {
            seed = (seed * 1103515245L + 12345L) % 2147483648L;
            boolean thaw = seed / 65536 % 5 == 0;
            seed = (seed * 1103515245L + 12345L) % 2147483648L;
            int by = (int) (seed / 65536 % (thaw ? 40 : 31));
            thaws += thaw ? 1 : 0;
            KIT.due("night " + i + " by draws", drifts.drift(1), thaw ? byHand.thaw(by) : byHand.night(by, 1));
        }
        KIT.due("some of them thaw", thaws > 5 && thaws < 20 ? 1 : 0, 1);
        KIT.due("seed behind them", drifts.seed(0), seed);
    }

    private static void drift() {
        IceSway x = Kit.told("y0 40,1 40;");
        KIT.due("drift(0)", x.drift(0), Kit.OUTSIDE);
        KIT.due("drift(100)", x.drift(100), Kit.OUTSIDE);
        // From 0: 12345 / 65536 is 0: a THAW; then 1406932606 / 65536 is 21468, by 40 that is 28.
        KIT.due("drift(1)", x.drift(1), 24);
        KIT.due("two draws", x.seed(3), 1406932606);
        KIT.due("nights", x.told(11), 1);

        IceSway y = Kit.told("y0 0,3 50;");
        y.seed(1);
        long s = 1;
        s = (s * 1103515245L + 12345L) % 2147483648L;
        boolean thaws = s / 65536 % 5 == 0;
        s = (s * 1103515245L + 12345L) % 2147483648L;
        int cold = (int) (s / 65536 % 31);
        KIT.due("from 1 the night is cold", thaws ? 1 : 0, 0);
        KIT.due("drift(1) from 1", y.drift(1), 2 * cold + 50 + 20 * cold / 60 / 2);
        KIT.due("seed", y.seed(0), s);

        driftNightByNight();
        IceSway z = new IceSway();
        KIT.due("drift without yards", z.drift(99), 0);
        KIT.due("nights are counted", z.told(11), 99);
    }
}
