/** Promises 23 to 27: bore, kinds, write, tear, judge. */
final class BoredTest {
    private static final Kit KIT = new Kit();

    public static void main(String[] args) {
        bore();
        kinds();
        kindsOfOpenYards();
        write();
        tear();
        judge();
        KIT.end();
    }

    private static void bore() {
        IceSway x = Kit.told("y0 5,1 6;");
        KIT.due("bore(2, 1, 1, 1)", x.bore(2, 1, 1, 1), Kit.UNKNOWN);
        KIT.due("bore(-1, 1, 1, 1)", x.bore(-1, 1, 1, 1), Kit.UNKNOWN);
        KIT.due("unknown first", x.bore(2, 10, 1, 1), Kit.UNKNOWN);
        KIT.due("k 10", x.bore(0, 10, 1, 1), Kit.OUTSIDE);
        KIT.due("k -1", x.bore(0, -1, 1, 1), Kit.OUTSIDE);
        KIT.due("c 31", x.bore(0, 1, 31, 1), Kit.OUTSIDE);
        KIT.due("c -1", x.bore(0, 1, -1, 1), Kit.OUTSIDE);
        KIT.due("v 301", x.bore(0, 1, 1, 301), Kit.OUTSIDE);
        KIT.due("v -1", x.bore(0, 1, 1, -1), Kit.OUTSIDE);
        KIT.due("none yet", x.told(16), 0);
        KIT.due("the least", x.bore(0, 0, 0, 0), 1);
        KIT.due("the most", x.bore(1, 9, 30, 300), 2);
        for (int i = 3; i <= 10; i++) {
            KIT.due("bore " + i, x.bore(1, 1, 1, 1), i);
        }
        KIT.due("bore 11", x.bore(1, 1, 1, 1), Kit.FULL);
        KIT.due("outside ahead of full", x.bore(1, 1, 1, 301), Kit.OUTSIDE);
        KIT.due("unknown ahead of full", x.bore(9, 1, 1, 1), Kit.UNKNOWN);
        KIT.due("ten", x.told(16), 10);
        KIT.due("without yards", new IceSway().bore(0, 0, 0, 0), Kit.UNKNOWN);
    }

    private static void kinds() {
        IceSway x = Kit.told("y0 10,1 10,2 10;");
        KIT.due("kinds(3)", x.kinds(3), Kit.UNKNOWN);
        KIT.due("kinds(-1)", x.kinds(-1), Kit.UNKNOWN);
        KIT.due("nothing bored", x.kinds(0), 15);
        // ICE 10 by COLD 10: 20 plain or in a lock, 25 in lumps, 15 under a bridge.
        x.bore(0, 1, 10, 20);
        KIT.due("plain or a lock", x.kinds(0), 1 + 4);
        KIT.due("of another yard nothing was bored", x.kinds(1), 15);
        x.bore(1, 1, 10, 25);
        KIT.due("lumps", x.kinds(1), 2);
        x.bore(2, 1, 10, 15);
        KIT.due("a bridge", x.kinds(2), 8);
        x.bore(2, 1, 10, 20);
        KIT.due("no kind fits both", x.kinds(2), 0);
        // Two nights from 10: 20, then 6 more; in lumps 25, then 5 and 2 more.
        x.bore(1, 2, 10, 32);
        KIT.due("lumps by two nights", x.kinds(1), 2);
        x.bore(0, 0, 30, 10);
        KIT.due("as it is now, whatever the cold", x.kinds(0), 5);
        x.bore(0, 0, 30, 11);
        KIT.due("not as it is now", x.kinds(0), 0);

        IceSway y = Kit.told("y0 0;");
        y.bore(0, 1, 10, 20);
        KIT.due("from when it is asked", y.kinds(0), 5);
        y.night(10, 1);
        KIT.due("asked a night later", y.kinds(0), 0);
        y.thaw(20);
        KIT.due("and without ice again", y.kinds(0), 5);
        IceSway z = Kit.told("y0 0;");
        z.bore(0, 9, 30, 300);
        KIT.due("not as much by nine nights", z.kinds(0), 0);
        IceSway thick = Kit.told("y1 99;");
        thick.night(30, 99);
        thick.night(30, 99);
        thick.bore(0, 9, 30, 300);
        KIT.due("300 at most, but a bridge grows no more either", thick.kinds(0), 15);
    }

    private static void kindsOfOpenYards() {
        IceSway x = Kit.told("y2 30;b12 20 4 0;");
        x.out(999);
        x.bore(0, 0, 10, 0);
        KIT.due("no night: no ice", x.kinds(0), 15);
        x.tear();
        // A third is 10; plain would be lumps by then: 25, 25, 20, 15.
        x.bore(0, 1, 10, 25);
        KIT.due("plain becomes lumps", x.kinds(0), 1 + 2);
        x.tear();
        x.bore(0, 1, 10, 20);
        KIT.due("a lock stays", x.kinds(0), 4);
        x.tear();
        x.bore(0, 1, 10, 15);
        KIT.due("a bridge stays", x.kinds(0), 8);
        KIT.due("asking shuts nothing", x.told(15), 1);
        KIT.due("nor counts nights", x.told(11), 0);
    }

    private static void write() {
        IceSway x = Kit.told("y0 5,1 6;");
        KIT.due("write(2, 1)", x.write(2, 1), Kit.UNKNOWN);
        KIT.due("write(-1, 1)", x.write(-1, 1), Kit.UNKNOWN);
        KIT.due("unknown first", x.write(2, 301), Kit.UNKNOWN);
        KIT.due("write(0, 301)", x.write(0, 301), Kit.OUTSIDE);
        KIT.due("write(0, -1)", x.write(0, -1), Kit.OUTSIDE);
        KIT.due("write(0, 0)", x.write(0, 0), 1);
        KIT.due("write(0, 300)", x.write(0, 300), 2);
        for (int i = 3; i <= 15; i++) {
            KIT.due("write " + i, x.write(1, i), i);
        }
        KIT.due("write 16", x.write(1, 6), Kit.FULL);
        KIT.due("outside ahead of full", x.write(1, 301), Kit.OUTSIDE);
        KIT.due("fifteen", x.told(17), 15);
    }

    private static void tear() {
        IceSway x = Kit.told("y0 5;");
        KIT.due("nothing to tear", x.tear(), 0);
        x.write(0, 1);
        x.write(0, 1);
        x.bore(0, 1, 1, 1);
        KIT.due("both", x.tear(), 3);
        KIT.due("bored", x.told(16), 0);
        KIT.due("book", x.told(17), 0);
        KIT.due("kinds", x.kinds(0), 15);
        KIT.due("judge", x.judge(), Kit.NONE);
        KIT.due("a new entry", x.write(0, 5), 1);
    }

    private static void judge() {
        KIT.due("without yards", new IceSway().judge(), Kit.NONE);
        IceSway x = Kit.told("y0 5,1 6;");
        x.write(1, 6);
        x.write(0, 5);
        KIT.due("all as it is", x.judge(), Kit.NONE);
        x.write(1, 7);
        x.write(0, 7);
        KIT.due("the first that is otherwise", x.judge(), 2);
        x.thaw(5);
        KIT.due("now another is", x.judge(), 0);
        IceSway y = Kit.told("y0 5;");
        y.write(0, 0);
        KIT.due("ice", y.judge(), 0);
        y.out(999);
        KIT.due("open: no ice", y.judge(), Kit.NONE);
    }
}
