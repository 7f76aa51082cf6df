/** Section 3 and promises 13 to 22, sentence by sentence: what is tried, on both sides of each bound. */
final class TriedBoundsTest {
    private static final Kit KIT = new Kit();
    private static final int BILLION = 1000000000;
    /** FORCE 10: two horses, and six men whose beat is two off. */
    private static final String TEN = "b2 6 6 0;";

    public static void main(String[] args) {
        minutesOfEachCall();
        today();
        bestBeat();
        laggards();
        laggardsNone();
        horses();
        stringLessThanGap();
        stringNone();
        turnLessThanGap();
        turnWithinTheDay();
        turnWithNothingBroken();
        planDays();
        planCoal();
        planLeastSet();
        planTown();
        planNightBehindEach();
        lostDays();
        oddsNights();
        oddsParts();
        noFall();
        withoutYards();
        twelveYards();
        KIT.end();
    }

    private static void minutesOfEachCall() {
        KIT.says("---- tried (t 1 .. 999).");
        IceSway x = Kit.told("y0 5,2 5;" + TEN);
        for (int t : new int[] {Integer.MIN_VALUE, -1, 0, 1000, 1001, Integer.MAX_VALUE}) {
            KIT.due("today(" + t + ", 0)", x.today(t, 0), Kit.OUTSIDE);
            KIT.due("today(" + t + ", 1)", x.today(t, 1), Kit.OUTSIDE);
            KIT.due("laggards(" + t + ")", x.laggards(t), Kit.OUTSIDE);
            KIT.due("horses(" + t + ")", x.horses(t), Kit.OUTSIDE);
            KIT.due("string(" + t + ", 1)", x.string(t, 1), Kit.OUTSIDE);
            KIT.due("turn(" + t + ")", x.turn(t), Kit.OUTSIDE);
            KIT.due("plan(1, " + t + ", 0, 0)", x.plan(1, t, 0, 0), Kit.OUTSIDE);
            KIT.due("lost(0, " + t + ")", x.lost(0, t), Kit.OUTSIDE);
            KIT.due("odds(1, 0, 0, 0, " + t + ")", x.odds(1, 0, 0, 0, t), Kit.OUTSIDE);
        }
        for (int t : new int[] {1, 999}) {
            boolean through = t == 999;
            KIT.due("today(" + t + ", 0)", x.today(t, 0), through ? 2 : 0);
            KIT.due("today(" + t + ", 1)", x.today(t, 1), through ? 32 : 0);
            KIT.due("laggards(" + t + ")", x.laggards(t), through ? Kit.NONE : 0);
            KIT.due("horses(" + t + ")", x.horses(t), through ? 1 : Kit.NONE);
            KIT.due("string(" + t + ", 1)", x.string(t, 1), through ? 59 : Kit.NONE);
            KIT.due("turn(" + t + ")", x.turn(t), through ? 2 : 0);
            KIT.due("plan(4, " + t + ", 0, 0)", x.plan(4, t, 0, 0), through ? 10 : 50);
            KIT.due("lost(0, " + t + ")", x.lost(0, t), through ? Kit.NONE : 0);
            KIT.due("odds(1, 0, 0, 0, " + t + ")", x.odds(1, 0, 0, 0, t), through ? BILLION : 0);
        }
    }

    private static void today() {
        KIT.says("TODAY in t minutes (1 .. 999): how many YARDS are behind it; minutes that these took.");
        IceSway x = Kit.told("y0 0,0 10,0 0;" + TEN);
        int[] yards = {1, 1, 2, 3, 3};
        int[] minutes = {1, 1, 12, 13, 13};
        int[] t = {1, 11, 12, 13, 14};
        for (int i = 0; i < t.length; i++) {
            KIT.due("today(" + t[i] + ", 0)", x.today(t[i], 0), yards[i]);
            KIT.due("today(" + t[i] + ", 1)", x.today(t[i], 1), minutes[i]);
        }
        KIT.says("TODAY: what = 0 YARDS, 1 minutes. OUTSIDE.");
        KIT.due("today(5, -1)", x.today(5, -1), Kit.OUTSIDE);
        KIT.due("today(5, 2)", x.today(5, 2), Kit.OUTSIDE);
    }

    private static void bestBeat() {
        KIT.says("BEST BEAT: of 1 to 9 that of most FORCE; of like ones the least.");
        KIT.due("swing 9", Kit.told("y0 0;b1 1 9 0;").bestBeat(), 9);
        KIT.due("swing 2", Kit.told("y0 0;b1 1 2 0;").bestBeat(), 2);
        KIT.due("all alike without men", Kit.told("y0 0;b1 0 9 0;").bestBeat(), 1);
        // By SWING: 3 (M - L) - 2 L: 5 of 10 laggards leave 5, 6 leave nothing.
        KIT.due("5 laggards", Kit.told("y0 0;b1 10 9 5;").bestBeat(), 9);
        KIT.due("6 laggards", Kit.told("y0 0;b1 10 9 6;").bestBeat(), 1);
        IceSway x = Kit.told("y0 0;b1 10 7 0;");
        x.beat(2);
        KIT.due("whatever the beat is now", x.bestBeat(), 7);
        KIT.due("which stays", x.told(12), 2);
    }

    private static void laggards() {
        KIT.says("LAGGARDS that kill it: the fewest (0 .. 20, in place of L) by which not all YARDS are behind it in t minutes; NONE.");
        // FORCE by 0, 1, 2 .. laggards: 34, 29, 24 .. ; ICE of just 2 times FORCE is broken yet.
        KIT.due("ICE 69", Kit.told("y0 69;b1 10 4 0;").laggards(999), 0);
        KIT.due("ICE 68", Kit.told("y0 68;b1 10 4 0;").laggards(999), 1);
        KIT.due("ICE 59", Kit.told("y0 59;b1 10 4 0;").laggards(999), 1);
        KIT.due("ICE 58", Kit.told("y0 58;b1 10 4 0;").laggards(999), 2);
        for (int told : new int[] {0, 1, 10, 20}) {
            KIT.due("in place of " + told, Kit.told("y0 58;b1 10 4 " + told + ";").laggards(999), 2);
        }
        // By 0 laggards ICE 34 takes 11 minutes, by 1 it rides up: 24.
        KIT.due("in 10 minutes", Kit.told("y0 34;b1 10 4 0;").laggards(10), 0);
        KIT.due("in 11 minutes", Kit.told("y0 34;b1 10 4 0;").laggards(11), 1);
        KIT.due("in 23 minutes", Kit.told("y0 34;b1 10 4 0;").laggards(23), 1);
        KIT.due("in 24 minutes", Kit.told("y0 34;b1 10 4 0;").laggards(24), 2);
        IceSway x = Kit.told("y0 14;b1 10 4 0;");
        x.beat(5);
        // By a beat one off: 14, 11, 8, 5, then 4 as SWAY is 0 at least.
        KIT.due("by the beat as it is", x.laggards(999), 3);
        x.beat(9);
        // By another: 7, then 5, then 4.
        KIT.due("by the beat as it is", x.laggards(999), 1);
    }

    private static void laggardsNone() {
        KIT.says("by which not all YARDS are behind it in t minutes; NONE.");
        // All sway is gone by 12 of 20 men, and FORCE 4 breaks ICE 8 in 42 minutes.
        KIT.due("ICE 9", Kit.told("y0 9;b1 20 4 0;").laggards(999), 12);
        KIT.due("ICE 8", Kit.told("y0 8;b1 20 4 0;").laggards(999), Kit.NONE);
        KIT.due("ICE 8 in 42 minutes", Kit.told("y0 8;b1 20 4 0;").laggards(42), Kit.NONE);
        KIT.due("ICE 8 in 41 minutes", Kit.told("y0 8;b1 20 4 0;").laggards(41), 12);
        KIT.due("no ice", Kit.told("y0 0;").laggards(1), Kit.NONE);
        KIT.due("no ice, no time", Kit.told("y0 0,0 0;").laggards(1), 0);
    }

    private static void horses() {
        KIT.says("HORSES: the fewest (1 .. 12) by which all YARDS are; NONE.");
        int[] ice = {1, 8, 9, 16, 17, 88, 89, 96};
        int[] want = {1, 1, 2, 2, 3, 11, 12, 12};
        for (int i = 0; i < ice.length; i++) {
            for (int told : new int[] {1, 12}) {
                String text = "y0 " + ice[i] + ";b" + told + " 0 2 0;";
                KIT.due(text, Kit.told(text).horses(999), want[i]);
            }
        }
        KIT.due("13 there are not", Kit.told("y0 97;b12 0 2 0;").horses(999), Kit.NONE);
        KIT.due("no ice: 1", Kit.told("y0 0;b12 0 2 0;").horses(1), 1);
        KIT.due("12 in 42 minutes", Kit.told("y0 96;b1 0 2 0;").horses(42), 12);
        KIT.due("not in 41 minutes", Kit.told("y0 96;b1 0 2 0;").horses(41), Kit.NONE);
        // With a sway of 10 by a beat one off.
        KIT.due("sway helps, ICE 28", Kit.told("y0 28;b9 10 5 0;").horses(999), 1);
        KIT.due("sway helps, ICE 29", Kit.told("y0 29;b9 10 5 0;").horses(999), 2);
    }

    private static int string(int gap, int k) {
        return Kit.told("y0 1;g" + gap + " 0;").string(999, k);
    }

    private static void stringLessThanGap() {
        KIT.says("how many come less than G minutes behind its breaking");
        KIT.due("G 1, k 1", string(1, 1), 0);
        KIT.due("G 2, k 1", string(2, 1), 1);
        KIT.due("G 2, k 2", string(2, 2), 0);
        KIT.due("G 3, k 2", string(3, 2), 1);
        KIT.due("G 4, k 2", string(4, 2), 1);
        KIT.due("G 5, k 2", string(5, 2), 2);
        KIT.due("G 99, k 99", string(99, 99), 0);
        KIT.due("G 100, k 99", string(100, 99), 1);
        KIT.due("G 198, k 99", string(198, 99), 1);
        KIT.due("G 199, k 99", string(199, 99), 2);
        KIT.due("G 999, k 1", string(999, 1), 998);
        KIT.says("each k minutes (1 .. 99) behind the one ahead (the first k behind THE BOAT)");
        KIT.due("k 0", string(9, 0), Kit.OUTSIDE);
        KIT.due("k -1", string(9, -1), Kit.OUTSIDE);
        KIT.due("k 100", string(9, 100), Kit.OUTSIDE);
        KIT.due("k 8 of 9", string(9, 8), 1);
        KIT.due("k 9 of 9", string(9, 9), 0);
    }

    private static void stringNone() {
        KIT.says("NONE: it breaks none.");
        // The second yard is broken at minute 12.
        IceSway x = Kit.told("y0 0,0 10,0 0;" + TEN + "g3 0;");
        KIT.due("in 12 minutes", x.string(12, 1), 2);
        KIT.due("in 11 minutes", x.string(11, 1), Kit.NONE);
        KIT.due("no boat, but broken", x.string(12, 3), 0);
        KIT.due("no ice", Kit.told("y0 0,2 0;").string(999, 1), Kit.NONE);
        KIT.due("it sticks in the first ice", Kit.told("y0 0,0 21;" + TEN).string(999, 1), Kit.NONE);
        KIT.due("it sticks in the second ice", Kit.told("y0 20,0 21;" + TEN).string(999, 1), 59);
        x.out(999);
        KIT.due("what is open is not broken", x.string(999, 1), Kit.NONE);
    }

    private static void turnLessThanGap() {
        KIT.says("it is through the first YARD that it broke (on this side of it again) less than G minutes behind having broken it");
        // One yard, broken at 11, on this side of it again at 12.
        KIT.due("G 2", Kit.told("y0 10;" + TEN + "g2 0;").turn(999), 1);
        KIT.due("G 1", Kit.told("y0 10;" + TEN + "g1 0;").turn(999), 0);
        // The second of three is broken at 12; back through it at 13 from there, at 15 from the third.
        int[] want = {1, 2, 2, 3, 3};
        for (int gap = 1; gap <= 5; gap++) {
            KIT.due("three yards, G " + gap, Kit.told("y0 0,0 10,0 0;" + TEN + "g" + gap + " 0;").turn(999), want[gap - 1]);
        }
        // Two to break: at 11 and 22; from the second it is back through the first at 24, 13 behind.
        KIT.due("the first that it broke, G 14", Kit.told("y0 10,0 10;" + TEN + "g14 0;").turn(999), 2);
        KIT.due("the first that it broke, G 13", Kit.told("y0 10,0 10;" + TEN + "g13 0;").turn(999), 1);
    }

    private static void turnWithinTheDay() {
        KIT.says("turning there (1 minute for each YARD back, within t in all)");
        IceSway x = Kit.told("y0 0,0 10,0 0;" + TEN);
        int[] t = {1, 2, 13, 14, 15, 16, 999};
        int[] want = {0, 1, 1, 2, 2, 3, 3};
        for (int i = 0; i < t.length; i++) {
            KIT.due("turn(" + t[i] + ")", x.turn(t[i]), want[i]);
        }
        KIT.due("a yard in 12", Kit.told("y0 10;" + TEN).turn(12), 1);
        KIT.due("a yard in 11", Kit.told("y0 10;" + TEN).turn(11), 0);
        String twelve = "y0 0,0 0,0 0,0 0,0 0,0 0,0 0,0 0,0 0,0 0,0 0,0 0;";
        KIT.due("twelve in 24", Kit.told(twelve).turn(24), 12);
        KIT.due("twelve in 23", Kit.told(twelve).turn(23), 11);
        KIT.due("ahead of where it sticks", Kit.told("y0 0,0 0,0 21;" + TEN).turn(999), 2);
        KIT.says("0: none.");
        KIT.due("it sticks at once", Kit.told("y0 21;" + TEN).turn(999), 0);
        KIT.due("a minute", Kit.told("y0 0;").turn(1), 0);
    }

    private static void turnWithNothingBroken() {
        KIT.says("(if it broke any)");
        KIT.due("no ice, G 1", Kit.told("y0 0,0 0;g1 0;").turn(4), 2);
        KIT.due("no ice, G 1, a minute less", Kit.told("y0 0,0 0;g1 0;").turn(3), 1);
        KIT.due("ahead of the ice, G 1", Kit.told("y0 0,0 0,0 10;" + TEN + "g1 0;").turn(999), 2);
        IceSway x = Kit.told("y0 10,0 10;" + TEN + "g1 0;");
        x.out(999);
        KIT.due("open is not broken again, G 1", x.turn(999), 2);
    }

    private static void planIs(String text, int days, int minutes, int cost, int set) {
        IceSway x = Kit.told(text);
        KIT.due(text + " for " + days + ", cost", x.plan(days, minutes, 0, 0), cost);
        KIT.due(text + " for " + days + ", SET", x.plan(days, minutes, 0, 1), set);
    }

    private static void planDays() {
        KIT.says("PLAN for n days (1 .. 8), of which each has t minutes, with a NIGHT of COLD c behind each");
        planIs("y0 0;c0 10 50;", 1, 1, 50, 0);
        planIs("y0 0;c0 10 50;", 8, 1, 400, 0);
        IceSway x = Kit.told("y0 0;");
        KIT.due("n 0", x.plan(0, 1, 0, 0), Kit.OUTSIDE);
        KIT.due("n 9", x.plan(9, 1, 0, 0), Kit.OUTSIDE);
        KIT.due("c -1", x.plan(1, 1, -1, 0), Kit.OUTSIDE);
        KIT.due("c 0", x.plan(1, 1, 0, 0), 0);
        KIT.due("c 30", x.plan(1, 1, 30, 0), 0);
        KIT.due("c 31", x.plan(1, 1, 31, 0), Kit.OUTSIDE);
        KIT.says("PLAN: what = 0 cost, 1 SET. OUTSIDE, NOT: no YARDS.");
        KIT.due("what -1", x.plan(4, 1, 0, -1), Kit.OUTSIDE);
        KIT.due("what 0", x.plan(4, 1, 0, 0), 10);
        KIT.due("what 1", x.plan(4, 1, 0, 1), 1);
        KIT.due("what 2", x.plan(4, 1, 0, 2), Kit.OUTSIDE);
        KIT.due("no yards", new IceSway().plan(4, 1, 0, 0), Kit.NOT);
        KIT.due("no yards, what 2", new IceSway().plan(4, 1, 0, 2), Kit.OUTSIDE);
    }

    private static void planCoal() {
        KIT.says("ahead of that each day uses one of COAL; without any it is a day of want, W");
        String open = "y0 0;c";
        // S days are without want, the next is not.
        planIs(open + "3 99 50;", 3, 1, 0, 0);
        planIs(open + "3 99 50;", 4, 1, 50, 0);
        planIs(open + "8 99 50;", 8, 1, 0, 0);
        planIs(open + "7 99 98;", 8, 1, 98, 0);
        planIs(open + "20 99 999;", 8, 1, 0, 0);
        // None in the town: what comes is none, too.
        planIs(open + "0 0 50;", 2, 1, 100, 0);
        KIT.says("if all YARDS are behind it, COAL is S days again (at the end of that day)");
        // Out on day 0 there are 2 behind it, enough for days 1 and 2; for day 3 it must be out again.
        planIs(open + "2 10 50;", 3, 1, 10, 1);
        planIs(open + "2 10 50;", 4, 1, 10, 2);
        planIs(open + "2 10 50;", 5, 1, 20, 1 + 4);
        // The day itself has used its own ahead of that: with one a day it must be out each day but the last.
        planIs(open + "1 10 50;", 8, 1, 70, 127);
        KIT.says("COAL is S at first here.");
        IceSway x = Kit.told(open + "2 10 50;");
        x.night(0, 9);
        x.out(1);
        KIT.due("whatever has been", x.plan(2, 1, 0, 0), 0);
        KIT.due("and a day more", x.plan(3, 1, 0, 0), 10);
    }

    private static void planLeastSet() {
        KIT.says("the least cost; of like ones the least SET (bit k: day k): cost; SET.");
        String open = "y0 0;c";
        planIs(open + "1 50 50;", 2, 1, 50, 0);
        planIs(open + "1 49 50;", 2, 1, 49, 1);
        planIs(open + "1 51 50;", 2, 1, 50, 0);
        planIs(open + "3 10 50;", 4, 1, 10, 1);
        planIs(open + "3 10 50;", 5, 1, 10, 2);
        planIs(open + "3 10 50;", 6, 1, 10, 4);
        planIs(open + "3 0 50;", 4, 1, 0, 1);
        planIs(open + "3 0 0;", 8, 1, 0, 0);
        planIs(open + "1 99 999;", 2, 1, 99, 1);
    }

    private static void planTown() {
        KIT.says("if all YARDS are behind it, COAL is S days again");
        // 11 minutes for the yard; on the day behind a day out it has 3 tenths: 4 minutes.
        planIs("y0 10;" + TEN + "c1 1 50;", 2, 11, 1, 1);
        planIs("y0 10;" + TEN + "c1 1 50;", 2, 10, 50, 0);
        // A lock: 5 minutes more.
        planIs("y2 10;" + TEN + "g60 5;c1 1 50;", 2, 16, 1, 1);
        planIs("y2 10;" + TEN + "g60 5;c1 1 50;", 2, 15, 50, 0);
        // Two yards in 22 minutes, or the first on day 0 and both on day 1, in 4 and 11.
        String two = "y0 10,0 10;" + TEN + "c1 1 50;";
        planIs(two, 3, 22, 2, 3);
        planIs(two, 3, 21, 52, 3);
        planIs(two, 3, 15, 52, 3);
        planIs(two, 3, 14, 100, 0);
        planIs(two, 2, 21, 50, 0);
        // A day on which it sticks costs D and brings nothing.
        planIs("y0 0,0 21;" + TEN + "c1 0 50;", 3, 999, 100, 0);
    }

    private static void planNightBehindEach() {
        KIT.says("with a NIGHT of COLD c behind each");
        // By a NIGHT of COLD 30 it has 28, or 24 if it was broken ahead of that: it sticks on each day but day 0.
        IceSway x = Kit.told("y3 18;" + TEN + "c2 1 50;");
        KIT.due("day 0 has no night ahead", x.plan(3, 38, 30, 0), 1);
        KIT.due("it goes on day 0", x.plan(3, 38, 30, 1), 1);
        IceSway y = Kit.told("y0 18;" + TEN + "c1 1 50;");
        // Out on day 0, it has 6 and lumps: 6 and 1 and 0 by COLD 1: 7 on day 1, 8 minutes.
        KIT.due("what was broken grows", y.plan(3, 38, 1, 0), 2);
        KIT.due("on both days", y.plan(3, 38, 1, 1), 3);
        // Coal for days 0 to 2, and for 2 to 4 if it is out on day 1: then there are 12, in 26 minutes.
        IceSway idle = Kit.told("y0 10;" + TEN + "c3 1 50;");
        KIT.due("a day without going out has its night, cost", idle.plan(5, 26, 2, 0), 1);
        KIT.due("a day without going out has its night, SET", idle.plan(5, 26, 2, 1), 2);
        KIT.due("a minute less: the ice is kept thin, cost", idle.plan(5, 25, 2, 0), 2);
        KIT.due("a minute less: the ice is kept thin, SET", idle.plan(5, 25, 2, 1), 3);
        IceSway z = Kit.told("y0 10;" + TEN + "c1 1 50;");
        z.out(999);
        // It is open on day 0; behind the night it has 3: 4 minutes.
        KIT.due("open today, shut tomorrow, 3 minutes", z.plan(3, 3, 0, 0), 51);
        KIT.due("open today, shut tomorrow, 4 minutes", z.plan(3, 4, 0, 0), 2);
    }

    private static void lostDays() {
        KIT.says("the first of days 0 to 60 on which not all YARDS would be behind it (a NIGHT each ahead of days 1 and on, no day out ahead); NONE.");
        KIT.due("day 0", Kit.told("y0 21;" + TEN).lost(0, 999), 0);
        KIT.due("never without cold", Kit.told("y0 20;" + TEN).lost(0, 999), Kit.NONE);
        KIT.due("never without cold, by minutes", Kit.told("y0 20;" + TEN).lost(0, 42), Kit.NONE);
        KIT.due("day 0, by minutes", Kit.told("y0 20;" + TEN).lost(0, 41), 0);
        // COLD 2 adds 40 / 30 = 1.
        KIT.due("day 1", Kit.told("y0 20;" + TEN).lost(2, 999), 1);
        KIT.due("day 2", Kit.told("y0 19;" + TEN).lost(2, 999), 2);
        // COLD 7 adds 1 a night to these, and FORCE 62 sticks in 125.
        KIT.due("day 59", Kit.told("y0 66;b12 14 5 0;").lost(7, 999), 59);
        KIT.due("day 60", Kit.told("y0 65;b12 14 5 0;").lost(7, 999), 60);
        KIT.due("day 61 is not looked at", Kit.told("y0 64;b12 14 5 0;").lost(7, 999), Kit.NONE);
        IceSway open = Kit.told("y0 10;" + TEN);
        open.out(999);
        KIT.due("open on day 0, 3 tenths on day 1", open.lost(0, 3), 1);
        KIT.due("4 minutes", open.lost(0, 4), Kit.NONE);
        KIT.says("LOST by nights of COLD c, t minutes");
        IceSway x = Kit.told("y0 0;" + TEN);
        KIT.due("c -1", x.lost(-1, 9), Kit.OUTSIDE);
        KIT.due("c 0", x.lost(0, 9), Kit.NONE);
        KIT.due("c 30", x.lost(30, 9), 1);
        KIT.due("c 31", x.lost(31, 9), Kit.OUTSIDE);
    }

    private static void oddsNights() {
        KIT.says("behind n nights (1 .. 8), each a THAW of d by q of a hundred, else a NIGHT of COLD c");
        IceSway x = Kit.told("y0 20;" + TEN);
        KIT.due("n 0", x.odds(0, 5, 5, 50, 999), Kit.OUTSIDE);
        KIT.due("n 1", x.odds(1, 5, 5, 50, 999), 500000000);
        KIT.due("n 8", x.odds(8, 0, 0, 50, 999), BILLION);
        KIT.due("n 9", x.odds(9, 5, 5, 50, 999), Kit.OUTSIDE);
        KIT.due("c -1", x.odds(1, -1, 5, 50, 999), Kit.OUTSIDE);
        KIT.due("c 0", x.odds(1, 0, 5, 50, 999), BILLION);
        KIT.due("c 30", x.odds(1, 30, 5, 50, 999), 500000000);
        KIT.due("c 31", x.odds(1, 31, 5, 50, 999), Kit.OUTSIDE);
        KIT.due("d -1", x.odds(1, 5, -1, 50, 999), Kit.OUTSIDE);
        KIT.due("d 0", x.odds(1, 5, 0, 50, 999), 500000000);
        KIT.due("d 60", x.odds(1, 5, 60, 50, 1), 500000000);
        KIT.due("d 61", x.odds(1, 5, 61, 50, 999), Kit.OUTSIDE);
        KIT.says("ODDS (q 0 .. 100). OUTSIDE.");
        KIT.due("q -1", x.odds(1, 5, 5, -1, 999), Kit.OUTSIDE);
        KIT.due("q 0", x.odds(1, 5, 5, 0, 999), 0);
        KIT.due("q 1", x.odds(1, 5, 5, 1, 999), 10000000);
        KIT.due("q 99", x.odds(1, 5, 5, 99, 999), 990000000);
        KIT.due("q 100", x.odds(1, 5, 5, 100, 999), BILLION);
        KIT.due("q 101", x.odds(1, 5, 5, 101, 999), Kit.OUTSIDE);
        KIT.says("ODDS that all YARDS are behind it in t minutes");
        // Behind a THAW of 10: 11 minutes.
        KIT.due("11 minutes", x.odds(1, 5, 10, 100, 11), BILLION);
        KIT.due("10 minutes", x.odds(1, 5, 10, 100, 10), 0);
        x.out(999);
        KIT.due("open shuts first: 6, 7 minutes", x.odds(1, 0, 0, 50, 7), BILLION);
        KIT.due("6 minutes", x.odds(1, 0, 0, 50, 6), 0);
    }

    private static void oddsParts() {
        KIT.says("night by night of each part times q / 100 (cut) a THAW, the rest a NIGHT");
        IceSway x = Kit.told("y0 20;" + TEN);
        for (int q : new int[] {0, 1, 33, 67, 99, 100}) {
            KIT.due("the rest is not lost, q " + q, x.odds(8, 0, 0, q, 999), BILLION);
        }
        // Only THAWS all the way: each night cuts.
        KIT.due("33 ** 4 of 100 ** 4", x.odds(4, 30, 0, 33, 999), 11859210);
        KIT.due("33 ** 5 of 100 ** 5", x.odds(5, 30, 0, 33, 999), 3913539);
        KIT.due("33 ** 6, cut", x.odds(6, 30, 0, 33, 999), 1291467);
        KIT.due("33 ** 7, cut again", x.odds(7, 30, 0, 33, 999), 426184);
        KIT.due("1 ** 4", x.odds(4, 30, 0, 1, 999), 10);
        KIT.due("1 ** 5", x.odds(5, 30, 0, 1, 999), 0);
        // Only NIGHTS all the way keep ICE 1, and the rest keeps what is cut.
        long rest = BILLION;
        for (int n = 1; n <= 8; n++) {
            rest -= rest * 33 / 100;
            IceSway bare = Kit.told("y0 1;" + TEN);
            KIT.due("at least one thaw of " + n, bare.odds(n, 0, 1, 33, 1), BILLION - rest);
        }
        KIT.due("of two nights the latter a thaw", Kit.told("y0 0;" + TEN).odds(2, 1, 3, 40, 1), 400000000);
    }

    private static void noFall() {
        KIT.says("NO FALL: odds that no HORSE falls in m minutes (0 .. 99): each falls by q of a thousand a minute");
        IceSway x = Kit.told("y0 0;b12 0 2 0;");
        KIT.due("m -1", x.noFall(-1, 5), Kit.OUTSIDE);
        KIT.due("m 0", x.noFall(0, 5), BILLION);
        KIT.due("m 0, q 1000", x.noFall(0, 1000), BILLION);
        KIT.due("m 1", x.noFall(1, 1), fallen(12, 1));
        KIT.due("m 99", x.noFall(99, 1), fallen(12 * 99, 1));
        KIT.due("m 100", x.noFall(100, 5), Kit.OUTSIDE);
        KIT.says("NO FALL (q 0 .. 1000). OUTSIDE.");
        KIT.due("q -1", x.noFall(1, -1), Kit.OUTSIDE);
        KIT.due("q 0", x.noFall(99, 0), BILLION);
        KIT.due("q 999", Kit.told("y0 0;b1 0 2 0;").noFall(1, 999), 1000000);
        KIT.due("q 1000", Kit.told("y0 0;b1 0 2 0;").noFall(1, 1000), 0);
        KIT.due("q 1001", x.noFall(1, 1001), Kit.OUTSIDE);
        KIT.says("a BILLION times (1000 less q) / 1000 for each HORSE and minute (cut)");
        KIT.due("999 a thousand, three times", Kit.told("y0 0;b1 0 2 0;").noFall(3, 1), 997002999);
        KIT.due("four times, cut", Kit.told("y0 0;b1 0 2 0;").noFall(4, 1), 996005996);
        KIT.due("two horses, two minutes", Kit.told("y0 0;b2 0 2 0;").noFall(2, 1), 996005996);
        KIT.due("1 of a thousand, three times", Kit.told("y0 0;b3 0 2 0;").noFall(1, 999), 1);
        KIT.due("four times", Kit.told("y0 0;b4 0 2 0;").noFall(1, 999), 0);
    }

    private static long fallen(int times, int q) {
        long odds = BILLION;
        for (int i = 0; i < times; i++) {
            odds -= (odds * q + 999) / 1000;
        }
        return odds;
    }

    private static void withoutYards() {
        KIT.says("No YARDS.");
        IceSway x = new IceSway();
        for (int t : new int[] {1, 999}) {
            KIT.due("today, yards", x.today(t, 0), 0);
            KIT.due("today, minutes", x.today(t, 1), 0);
            KIT.due("laggards: none are too many", x.laggards(t), Kit.NONE);
            KIT.due("horses", x.horses(t), 1);
            KIT.due("string", x.string(t, 1), Kit.NONE);
            KIT.due("turn", x.turn(t), 0);
            KIT.due("lost", x.lost(30, t), Kit.NONE);
            KIT.due("odds", x.odds(8, 30, 0, 33, t), BILLION);
        }
        KIT.due("bestBeat", x.bestBeat(), 4);
        KIT.due("noFall", x.noFall(1, 1), 996005996);
    }

    private static void twelveYards() {
        KIT.says("1 to 12 YARDS");
        // Each takes 2 minutes by FORCE 10, and 1 without ICE.
        IceSway x = Kit.told("y3 1,3 1,3 1,3 1,3 1,3 1,3 1,3 1,3 1,3 1,3 1,3 1;" + TEN);
        KIT.due("today(24, 0)", x.today(24, 0), 12);
        KIT.due("today(23, 0)", x.today(23, 0), 11);
        KIT.due("laggards(999)", x.laggards(999), Kit.NONE);
        // FORCE 6 takes 2 minutes a yard, too; FORCE 14 takes 1.
        KIT.due("horses(24)", x.horses(24), 1);
        KIT.due("horses(23)", x.horses(23), 3);
        KIT.due("string(24, 1)", x.string(24, 1), 59);
        KIT.due("turn(36)", x.turn(36), 12);
        KIT.due("turn(35)", x.turn(35), 11);
        KIT.due("plan(4, 24, 0, 1)", x.plan(4, 24, 0, 1), 1);
        KIT.due("plan(4, 11, 0, 0)", x.plan(4, 11, 0, 0), 50);
        KIT.due("lost(0, 24)", x.lost(0, 24), Kit.NONE);
        KIT.due("lost(30, 24)", x.lost(30, 24), 1);
        KIT.due("odds, thawed in 12 minutes", x.odds(1, 0, 1, 25, 12), 250000000);
        KIT.due("odds, in 24 minutes", x.odds(8, 0, 1, 25, 24), BILLION);
    }
}
