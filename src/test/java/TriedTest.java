/** Promises 13 to 22: today, bestBeat, laggards, horses, string, turn, plan, lost, odds, noFall. */
final class TriedTest {
    private static final Kit KIT = new Kit();
    /** By beat 5 the FORCE is 36, and the yards take 3, 6, 17, 9, 1, 26 minutes. */
    private static final String SIX = "y0 10,1 20,2 5,3 30,0 0,0 45;b4 10 5 2;g30 15;c2 20 100;";
    private static final int[] BAD_MINUTES = {0, -1, 1000, Integer.MAX_VALUE, Integer.MIN_VALUE};

    public static void main(String[] args) {
        today();
        bestBeat();
        laggards();
        horses();
        string();
        turn();
        planCosts();
        planNights();
        planRefused();
        lost();
        odds();
        noFall();
        nothingChanges();
        KIT.end();
    }

    private static IceSway six() {
        IceSway x = Kit.told(SIX);
        x.beat(5);
        return x;
    }

    private static void today() {
        IceSway x = six();
        int[] ends = {3, 9, 26, 35, 36, 62};
        for (int y = 0; y < ends.length; y++) {
            KIT.due("today(" + ends[y] + ", 0)", x.today(ends[y], 0), y + 1);
            KIT.due("today(" + ends[y] + ", 1)", x.today(ends[y], 1), ends[y]);
            KIT.due("today(one less, 0)", x.today(ends[y] - 1, 0), y);
            KIT.due("today(one less, 1)", x.today(ends[y] - 1, 1), y == 0 ? 0 : ends[y - 1]);
        }
        KIT.due("today(999, 1)", x.today(999, 1), 62);
        KIT.due("today(5, 2)", x.today(5, 2), Kit.OUTSIDE);
        KIT.due("today(5, -1)", x.today(5, -1), Kit.OUTSIDE);
        for (int t : BAD_MINUTES) {
            KIT.due("today(" + t + ", 0)", x.today(t, 0), Kit.OUTSIDE);
        }
        KIT.due("without yards", new IceSway().today(5, 1), 0);
        IceSway stuck = Kit.told("y0 0,0 99,0 0;b1 0 2 0;");
        KIT.due("stuck, yards", stuck.today(999, 0), 1);
        KIT.due("stuck, minutes", stuck.today(999, 1), 1);
    }

    private static void bestBeat() {
        for (int swing = 2; swing <= 9; swing++) {
            KIT.due("swing " + swing, Kit.told("y0 0;b1 10 " + swing + " 0;").bestBeat(), swing);
        }
        KIT.due("no men: all alike", Kit.told("y0 0;b1 0 7 0;").bestBeat(), 1);
        KIT.due("laggards take all", Kit.told("y0 0;b1 10 7 8;").bestBeat(), 1);
        KIT.due("the own swing is left", Kit.told("y0 0;b1 10 7 5;").bestBeat(), 7);
        KIT.due("without yards", new IceSway().bestBeat(), 4);
    }

    private static void laggards() {
        IceSway x = six();
        KIT.due("laggards(100)", x.laggards(100), 5);
        KIT.due("laggards(30)", x.laggards(30), 0);
        KIT.due("laggards(999)", x.laggards(999), 5);
        KIT.due("never", Kit.told("y0 1;b4 20 4 20;").laggards(999), Kit.NONE);
        KIT.due("without yards", new IceSway().laggards(1), Kit.NONE);
        // FORCE falls by 5 for each laggard: 64, 59, ..., 4 by 12 of them; ICE 9 sticks by FORCE 4 alone.
        KIT.due("by the last that sways", Kit.told("y0 9;b1 20 4 0;").laggards(999), 12);
        KIT.due("in place of those told", Kit.told("y0 9;b1 20 4 20;").laggards(999), 12);
        for (int t : BAD_MINUTES) {
            KIT.due("laggards(" + t + ")", x.laggards(t), Kit.OUTSIDE);
        }
    }

    private static void horses() {
        IceSway x = Kit.told(SIX);
        KIT.due("horses(100)", x.horses(100), 5);
        KIT.due("horses(40)", x.horses(40), 12);
        KIT.due("horses(10)", x.horses(10), Kit.NONE);
        x.beat(5);
        KIT.due("by the beat", x.horses(100), 1);
        KIT.due("without yards", new IceSway().horses(1), 1);
        KIT.due("all twelve", Kit.told("y0 96;b1 0 2 0;").horses(42), 12);
        KIT.due("thirteen are not", Kit.told("y0 97;b1 0 2 0;").horses(999), Kit.NONE);
        for (int t : BAD_MINUTES) {
            KIT.due("horses(" + t + ")", x.horses(t), Kit.OUTSIDE);
        }
    }

    private static void string() {
        IceSway x = six();
        int[] by = {29, 14, 9, 7, 5};
        for (int k = 1; k <= by.length; k++) {
            KIT.due("string(100, " + k + ")", x.string(100, k), 29 / k);
            KIT.due("by hand", by[k - 1], 29 / k);
        }
        KIT.due("string(3, 29)", x.string(3, 29), 1);
        KIT.due("string(3, 30)", x.string(3, 30), 0);
        KIT.due("it breaks none", x.string(2, 1), Kit.NONE);
        KIT.due("string(3, 0)", x.string(3, 0), Kit.OUTSIDE);
        KIT.due("string(3, 100)", x.string(3, 100), Kit.OUTSIDE);
        KIT.due("string(3, 99)", x.string(3, 99), 0);
        for (int t : BAD_MINUTES) {
            KIT.due("string(" + t + ", 1)", x.string(t, 1), Kit.OUTSIDE);
        }
        KIT.due("no ice at all", Kit.told("y0 0,0 0;").string(999, 1), Kit.NONE);
        KIT.due("the ice is further than a day", Kit.told("y0 0,0 1;").string(1, 1), Kit.NONE);
        KIT.due("the ice behind a yard without", Kit.told("y0 0,0 1;").string(2, 1), 59);
        KIT.due("a gap of one minute", Kit.told("y0 1;g1 0;").string(9, 1), 0);
        KIT.due("without yards", new IceSway().string(9, 1), Kit.NONE);
        x.out(999);
        KIT.due("what is open is not broken again", x.string(999, 1), Kit.NONE);
    }

    private static void turn() {
        IceSway x = six();
        KIT.due("turn(100)", x.turn(100), 3);
        KIT.due("turn(29)", x.turn(29), 3);
        KIT.due("turn(28)", x.turn(28), 2);
        KIT.due("turn(11)", x.turn(11), 2);
        KIT.due("turn(10)", x.turn(10), 1);
        KIT.due("turn(4)", x.turn(4), 1);
        KIT.due("turn(3)", x.turn(3), 0);
        // It has broken yard 0 at minute 3 and is back through it at 29: 26 behind.
        KIT.due("a gap of 27", sixWithGap(27).turn(100), 3);
        KIT.due("a gap of 26", sixWithGap(26).turn(100), 2);
        KIT.due("a gap of 2", sixWithGap(2).turn(100), 1);
        KIT.due("a gap of 1", sixWithGap(1).turn(100), 0);
        // Two yards without ICE, then one of 11 minutes: broken at 13, back through it at 14.
        IceSway y = Kit.told("y0 0,0 0,0 10,0 0;b2 6 6 0;g2 0;");
        KIT.due("turn(16)", y.turn(16), 3);
        KIT.due("turn(15)", y.turn(15), 2);
        KIT.due("turn(999)", y.turn(999), 3);
        KIT.due("nothing broken", Kit.told("y0 0,0 0,0 0;g1 0;").turn(999), 3);
        KIT.due("nothing broken, 4 minutes", Kit.told("y0 0,0 0,0 0;g1 0;").turn(4), 2);
        KIT.due("nothing broken, 5 minutes", Kit.told("y0 0,0 0,0 0;g1 0;").turn(5), 2);
        KIT.due("the ice is left alone", Kit.told("y0 0,0 0,0 10;b2 6 6 0;g1 0;").turn(999), 2);
        KIT.due("without yards", new IceSway().turn(999), 0);
        for (int t : BAD_MINUTES) {
            KIT.due("turn(" + t + ")", x.turn(t), Kit.OUTSIDE);
        }
    }

    private static IceSway sixWithGap(int gap) {
        IceSway x = Kit.told("y0 10,1 20,2 5,3 30,0 0,0 45;b4 10 5 2;g" + gap + " 15;");
        x.beat(5);
        return x;
    }

    private static void planCosts() {
        String open = "y0 0;c";
        planIs(open + "3 10 50;", 3, 0, 0);
        planIs(open + "3 10 50;", 4, 10, 1);
        planIs(open + "3 10 50;", 6, 10, 4);
        planIs(open + "3 10 50;", 7, 20, 1 + 8);
        planIs(open + "1 10 50;", 3, 20, 1 + 2);
        planIs(open + "0 10 50;", 3, 150, 0);
        planIs(open + "0 0 50;", 3, 150, 0);
        planIs(open + "1 60 50;", 2, 50, 0);
        planIs(open + "1 50 50;", 2, 50, 0);
        planIs(open + "1 49 50;", 2, 49, 1);
        planIs(open + "1 0 50;", 8, 0, 127);
        planIs(open + "2 99 999;", 8, 297, 2 + 8 + 32);
        planIs(open + "20 99 999;", 8, 0, 0);
        planIs(open + "3 10 0;", 8, 0, 0);
        // Stuck: no day out helps.
        planIs("y0 99;b1 0 2 0;c1 1 9;", 8, 63, 0);
    }

    private static void planIs(String text, int days, int cost, int set) {
        IceSway x = Kit.told(text);
        KIT.due(text + " plan of " + days + ", cost", x.plan(days, 100, 0, 0), cost);
        KIT.due(text + " plan of " + days + ", set", x.plan(days, 100, 0, 1), set);
    }

    private static void planNights() {
        IceSway x = six();
        KIT.due("plan(3, 100, 10, 0)", x.plan(3, 100, 10, 0), 20);
        KIT.due("plan(3, 100, 10, 1)", x.plan(3, 100, 10, 1), 1);
        IceSway y = six();
        KIT.due("plan(5, 100, 10, 0)", y.plan(5, 100, 10, 0), 40);
        KIT.due("plan(5, 100, 10, 1)", y.plan(5, 100, 10, 1), 5);
        KIT.due("plan(8, 100, 20, 0)", y.plan(8, 100, 20, 0), 520);
        KIT.due("plan(8, 100, 20, 1)", y.plan(8, 100, 20, 1), 1);
        KIT.due("no time", y.plan(5, 25, 0, 0), 300);
        KIT.due("in time by what was broken on the day before", y.plan(5, 50, 0, 0), 60);
        KIT.due("its set", y.plan(5, 50, 0, 1), 7);
        // A first day out to break the first yard pays, though the town is only reached on the second.
        IceSway two = Kit.told("y0 10,0 10;b2 6 6 0;c1 1 100;");
        KIT.due("in two days, cost", two.plan(3, 15, 0, 0), 102);
        KIT.due("in two days, set", two.plan(3, 15, 0, 1), 3);
        // Broken on day 0 it is 13 on day 1: 28 minutes.
        IceSway grows = Kit.told("y0 10;b2 6 6 0;c1 1 100;");
        KIT.due("28 minutes are enough, cost", grows.plan(3, 28, 5, 0), 2);
        KIT.due("28 minutes are enough, set", grows.plan(3, 28, 5, 1), 3);
        KIT.due("27 minutes are not", grows.plan(3, 27, 5, 0), 101);
        // What is open now shuts in the night behind day 0.
        IceSway shuts = Kit.told("y0 20;b2 6 6 0;c1 1 100;");
        shuts.out(999);
        KIT.due("open now", shuts.plan(2, 1, 0, 1), 1);
        KIT.due("shut on day 1", shuts.plan(3, 1, 0, 0), 101);
    }

    private static void planRefused() {
        IceSway x = six();
        KIT.due("plan(0, 5, 5, 0)", x.plan(0, 5, 5, 0), Kit.OUTSIDE);
        KIT.due("plan(9, 5, 5, 0)", x.plan(9, 5, 5, 0), Kit.OUTSIDE);
        KIT.due("plan(1, 5, 31, 0)", x.plan(1, 5, 31, 0), Kit.OUTSIDE);
        KIT.due("plan(1, 5, -1, 0)", x.plan(1, 5, -1, 0), Kit.OUTSIDE);
        KIT.due("plan(1, 5, 5, 2)", x.plan(1, 5, 5, 2), Kit.OUTSIDE);
        KIT.due("plan(1, 5, 5, -1)", x.plan(1, 5, 5, -1), Kit.OUTSIDE);
        for (int t : BAD_MINUTES) {
            KIT.due("plan(1, " + t + ", 5, 0)", x.plan(1, t, 5, 0), Kit.OUTSIDE);
        }
        KIT.due("without yards", new IceSway().plan(1, 5, 5, 0), Kit.NOT);
        KIT.due("outside first", new IceSway().plan(0, 5, 5, 0), Kit.OUTSIDE);
    }

    private static void lost() {
        IceSway x = Kit.told(SIX);
        KIT.due("lost(10, 100)", x.lost(10, 100), 0);
        x.beat(5);
        KIT.due("lost(10, 100) in time", x.lost(10, 100), 3);
        KIT.due("lost(0, 62)", x.lost(0, 62), Kit.NONE);
        KIT.due("lost(0, 61)", x.lost(0, 61), 0);
        KIT.due("lost(31, 100)", x.lost(31, 100), Kit.OUTSIDE);
        KIT.due("lost(-1, 100)", x.lost(-1, 100), Kit.OUTSIDE);
        for (int t : BAD_MINUTES) {
            KIT.due("lost(5, " + t + ")", x.lost(5, t), Kit.OUTSIDE);
        }
        KIT.due("without yards", new IceSway().lost(30, 1), Kit.NONE);
        // COLD 1 adds 2, then 1 a night up to 11: it is 10 on day 9, and above the FORCE of 10 on day 10.
        KIT.due("10 on day 9", Kit.told("y0 0;b2 6 6 0;").lost(1, 10), 9);
        KIT.due("11 on day 10", Kit.told("y0 0;b2 6 6 0;").lost(1, 23), 10);
        KIT.due("11 and no more", Kit.told("y0 0;b2 6 6 0;").lost(1, 24), Kit.NONE);
        // COLD 7 adds 1 a night to these, and FORCE 62 sticks in 125: on day 60, or on day 61, too late to be told.
        KIT.due("day 60", Kit.told("y0 65;b12 14 5 0;").lost(7, 999), 60);
        KIT.due("day 61", Kit.told("y0 64;b12 14 5 0;").lost(7, 999), Kit.NONE);
        IceSway open = Kit.told("y0 10;b2 6 6 0;");
        open.out(999);
        KIT.due("what is open shuts ahead of day 1", open.lost(0, 3), 1);
    }

    private static void odds() {
        IceSway x = Kit.told("y0 10;b2 6 6 0;");
        KIT.due("a thaw alone gets through", x.odds(1, 1, 1, 37, 10), 370000000);
        KIT.due("q 0", x.odds(1, 1, 1, 0, 10), 0);
        KIT.due("q 100", x.odds(1, 1, 1, 100, 10), 1000000000);
        KIT.due("each of eight", x.odds(8, 1, 10, 100, 1), 1000000000);
        KIT.due("each of eight is cold", x.odds(8, 30, 10, 0, 999), 0);
        // ICE 10 grows by 1 or loses 1 (0 grows by 2): two nights of which both thaw.
        KIT.due("two thaws", x.odds(2, 1, 1, 50, 9), 250000000);
        // 1 of a hundred by five nights: 10 ** -10 of a BILLION is cut to 0.
        KIT.due("four thaws of 1 in a hundred", x.odds(4, 30, 0, 1, 11), 10);
        KIT.due("five thaws of 1 in a hundred", x.odds(5, 30, 0, 1, 11), 0);
        KIT.due("a part of 1", x.odds(8, 30, 0, 8, 11), 1);
        IceSway y = six();
        KIT.due("cut by parts", y.odds(8, 10, 10, 37, 80), 555655677);
        KIT.due("without yards", new IceSway().odds(1, 5, 5, 50, 5), 1000000000);
        KIT.due("odds(0, ..)", x.odds(0, 5, 5, 5, 5), Kit.OUTSIDE);
        KIT.due("odds(9, ..)", x.odds(9, 5, 5, 5, 5), Kit.OUTSIDE);
        KIT.due("c 31", x.odds(1, 31, 5, 5, 5), Kit.OUTSIDE);
        KIT.due("c -1", x.odds(1, -1, 5, 5, 5), Kit.OUTSIDE);
        KIT.due("d 61", x.odds(1, 5, 61, 5, 5), Kit.OUTSIDE);
        KIT.due("d -1", x.odds(1, 5, -1, 5, 5), Kit.OUTSIDE);
        KIT.due("q 101", x.odds(1, 5, 5, 101, 5), Kit.OUTSIDE);
        KIT.due("q -1", x.odds(1, 5, 5, -1, 5), Kit.OUTSIDE);
        for (int t : BAD_MINUTES) {
            KIT.due("t " + t, x.odds(1, 5, 5, 5, t), Kit.OUTSIDE);
        }
        x.out(999);
        KIT.due("what is open shuts ahead of the night", x.odds(1, 0, 0, 50, 3), 0);
        KIT.due("a thaw of the third", x.odds(1, 0, 3, 50, 3), 500000000);
    }

    private static void noFall() {
        IceSway x = Kit.told("y0 0;b3 0 2 0;");
        KIT.due("noFall(0, 1000)", x.noFall(0, 1000), 1000000000);
        KIT.due("noFall(99, 0)", x.noFall(99, 0), 1000000000);
        KIT.due("noFall(1, 1000)", x.noFall(1, 1000), 0);
        KIT.due("noFall(1, 1)", x.noFall(1, 1), 997002999);
        KIT.due("noFall(1, 999)", x.noFall(1, 999), 1);
        KIT.due("noFall(2, 999)", x.noFall(2, 999), 0);
        KIT.due("cut each time", Kit.told("y0 0;b4 0 2 0;").noFall(5, 10), 817906930);
        KIT.due("without yards 4 horses", new IceSway().noFall(1, 500), 62500000);
        KIT.due("noFall(-1, 5)", x.noFall(-1, 5), Kit.OUTSIDE);
        KIT.due("noFall(100, 5)", x.noFall(100, 5), Kit.OUTSIDE);
        KIT.due("noFall(5, -1)", x.noFall(5, -1), Kit.OUTSIDE);
        KIT.due("noFall(5, 1001)", x.noFall(5, 1001), Kit.OUTSIDE);
    }

    private static void nothingChanges() {
        IceSway x = six();
        x.night(3, 1);
        x.out(20);
        x.seed(5);
        long before = stateOf(x);
        x.today(999, 0);
        x.bestBeat();
        x.laggards(100);
        x.horses(100);
        x.string(100, 3);
        x.turn(100);
        x.plan(8, 100, 10, 1);
        x.lost(10, 100);
        x.odds(8, 10, 10, 50, 100);
        x.noFall(9, 9);
        KIT.due("what is tried changes nothing", stateOf(x), before);
    }

    private static long stateOf(IceSway x) {
        long sum = 0;
        for (int what = 0; what <= 17; what++) {
            sum = 31 * sum + x.told(what);
        }
        for (int y = 0; y < x.told(0); y++) {
            for (int what = 0; what <= 2; what++) {
                sum = 31 * sum + x.yard(y, what);
            }
        }
        int seed = x.seed(0);
        x.seed(seed);
        return 31 * sum + seed;
    }
}
