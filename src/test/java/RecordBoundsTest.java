import java.math.BigInteger;

/** Promises 1 and 3, 23 to 30, sentence by sentence: what was bored, the book, draws, images, 512 calls. */
final class RecordBoundsTest {
    private static final Kit KIT = new Kit();

    public static void main(String[] args) {
        newObject();
        whatACutLeaves();
        latestFault();
        boredAtMost();
        boredNumbers();
        boredNights();
        kindsOfAllThatWasBored();
        kindsOfAnOpenYard();
        bookAtMost();
        bookNumbers();
        firstWrong();
        tear();
        seedBounds();
        seedLeftOver();
        drawsAtTheirBounds();
        imageNumbers();
        imageNotKept();
        imageKeeps();
        imagesAreGone();
        calls512();
        KIT.end();
    }

    private static void newObject() {
        KIT.says("No YARDS.");
        IceSway x = new IceSway();
        int[] want = {0, 4, 10, 4, 0, 60, 20, 3, 10, 50, 0, 0, 4, 30, 46, 0, 0, 0};
        for (int what = 0; what < want.length; what++) {
            KIT.due("told(" + what + ")", x.told(what), want[what]);
        }
        KIT.due("told(18)", x.told(18), Kit.OUTSIDE);
        KIT.due("told(-1)", x.told(-1), Kit.OUTSIDE);
        KIT.due("fault()", x.fault(), Kit.NONE);
        KIT.due("judge()", x.judge(), Kit.NONE);
        KIT.due("tear()", x.tear(), 0);
        KIT.due("yard(0, 0)", x.yard(0, 0), Kit.UNKNOWN);
    }

    private static void whatACutLeaves() {
        KIT.says("becomes THE CUT (nothing OPEN, BEAT 4, NIGHTS 0; nothing BORED, no BOOK; IMAGES are gone; THE SEED stays)");
        IceSway x = Kit.told("y0 9,0 9;");
        x.night(1, 3);
        x.beat(8);
        x.bore(0, 1, 1, 1);
        x.write(0, 1);
        x.keep(0);
        x.keep(1);
        x.out(999);
        x.seed(2147483647);
        Kit.feedAll(x, "y0 9,0 9;");
        KIT.due("cut()", x.cut(), 2);
        KIT.due("nothing OPEN", x.told(15), 0);
        KIT.due("nothing broken", x.yard(0, 2), 0);
        KIT.due("BEAT 4", x.told(12), 4);
        KIT.due("NIGHTS 0", x.told(11), 0);
        KIT.due("nothing BORED", x.told(16), 0);
        KIT.due("all kinds fit", x.kinds(0), 15);
        KIT.due("no BOOK", x.told(17), 0);
        KIT.due("nothing is wrong", x.judge(), Kit.NONE);
        KIT.due("image 0 is gone", x.goBack(0), Kit.NOT);
        KIT.due("image 1 is gone", x.goBack(1), Kit.NOT);
        KIT.due("THE SEED stays", x.seed(0), 2147483647);
        KIT.due("THE TEXT is empty", x.told(10), 0);
    }

    private static void latestFault() {
        KIT.says("The place (from 0 on) of the letter that has the FAULT of the latest cut(); NONE.");
        IceSway x = new IceSway();
        KIT.due("no cut yet", x.fault(), Kit.NONE);
        Kit.feedAll(x, "x");
        KIT.due("fed, not cut", x.fault(), Kit.NONE);
        KIT.due("cut", x.cut(), -11);
        KIT.due("at 0", x.fault(), 0);
        Kit.feedAll(x, "y0 7");
        KIT.due("the latest cut's yet", x.fault(), 0);
        KIT.due("cut", x.cut(), -11);
        KIT.due("at the end", x.fault(), 4);
        KIT.due("cut of nothing", x.cut(), 0);
        KIT.due("none", x.fault(), Kit.NONE);
    }

    private static void boredAtMost() {
        KIT.says("BORED (10 at most)");
        IceSway x = Kit.told("y0 5,1 6;");
        for (int i = 1; i <= 10; i++) {
            KIT.due("the " + i + "th", x.bore(i % 2, 0, 0, 5 + i % 2), i);
        }
        KIT.due("the 11th", x.bore(0, 0, 0, 6), Kit.FULL);
        KIT.due("ten", x.told(16), 10);
        KIT.due("the 11th is not among them", x.kinds(0), 15);
        KIT.due("torn", x.tear(), 10);
        KIT.due("the first again", x.bore(0, 0, 0, 6), 1);
        KIT.due("it counts", x.kinds(0), 0);
        x.tear();
        for (int i = 1; i <= 9; i++) {
            x.bore(0, 0, 0, 5);
        }
        KIT.due("nine that fit", x.kinds(0), 15);
        KIT.due("the tenth", x.bore(0, 0, 0, 4), 10);
        KIT.due("the tenth counts, too", x.kinds(0), 0);
        KIT.due("in its own yard alone", x.kinds(1), 15);
    }

    private static void boredNumbers() {
        KIT.says("a YARD had ICE v (0 .. 300) behind k NIGHTS of COLD c each from when that is asked (k 0 .. 9)");
        IceSway x = Kit.told("y0 5,1 6;");
        KIT.due("v -1", x.bore(0, 1, 1, -1), Kit.OUTSIDE);
        KIT.due("v 301", x.bore(0, 1, 1, 301), Kit.OUTSIDE);
        KIT.due("k -1", x.bore(0, -1, 1, 1), Kit.OUTSIDE);
        KIT.due("k 10", x.bore(0, 10, 1, 1), Kit.OUTSIDE);
        KIT.due("c -1", x.bore(0, 1, -1, 1), Kit.OUTSIDE);
        KIT.due("c 31", x.bore(0, 1, 31, 1), Kit.OUTSIDE);
        KIT.due("y -1", x.bore(-1, 1, 1, 1), Kit.UNKNOWN);
        KIT.due("y 2", x.bore(2, 1, 1, 1), Kit.UNKNOWN);
        KIT.due("none was taken", x.told(16), 0);
        KIT.due("v 0", x.bore(0, 1, 1, 0), 1);
        KIT.due("v 300", x.bore(0, 1, 1, 300), 2);
        KIT.due("k 0", x.bore(0, 0, 1, 1), 3);
        KIT.due("k 9", x.bore(0, 9, 1, 1), 4);
        KIT.due("c 0", x.bore(0, 1, 0, 1), 5);
        KIT.due("c 30", x.bore(0, 1, 30, 1), 6);
        KIT.due("y 0", x.bore(0, 1, 1, 1), 7);
        KIT.due("y 1", x.bore(1, 1, 1, 1), 8);
    }

    private static int kindsBy(String text, int nights, int cold, int ice) {
        IceSway x = Kit.told(text);
        x.bore(0, nights, cold, ice);
        return x.kinds(0);
    }

    private static void boredNights() {
        KIT.says("behind k NIGHTS of COLD c each from when that is asked (k 0 .. 9)");
        KIT.due("k 0: as it is", kindsBy("y1 5;", 0, 30, 5), 15);
        KIT.due("k 0: not as it is", kindsBy("y1 5;", 0, 30, 6), 0);
        // From 0 by COLD 1: 2, 3, 4 .. 10 plain; 3, 4 .. 11 in lumps; 1, then no more, under a bridge.
        KIT.due("k 1, plain or a lock", kindsBy("y1 0;", 1, 1, 2), 1 + 4);
        KIT.due("k 1, lumps", kindsBy("y1 0;", 1, 1, 3), 2);
        KIT.due("k 1, a bridge", kindsBy("y1 0;", 1, 1, 1), 8);
        KIT.due("k 1, none", kindsBy("y1 0;", 1, 1, 0), 0);
        KIT.due("k 9, plain or a lock", kindsBy("y1 0;", 9, 1, 10), 1 + 4);
        KIT.due("k 9, lumps", kindsBy("y1 0;", 9, 1, 11), 2);
        KIT.due("k 9, a bridge", kindsBy("y1 0;", 9, 1, 1), 8);
        KIT.due("no cold", kindsBy("y1 7;", 9, 0, 7), 15);
        IceSway x = Kit.told("y0 0;");
        x.bore(0, 1, 10, 20);
        KIT.due("asked now", x.kinds(0), 5);
        x.night(10, 1);
        KIT.due("asked a night later", x.kinds(0), 0);
        IceSway thick = Kit.told("y0 99;");
        thick.night(30, 99);
        thick.night(30, 99);
        thick.bore(0, 9, 30, 300);
        KIT.due("ICE is 300 at most here, too", thick.kinds(0), 15);
    }

    private static void kindsOfAllThatWasBored() {
        KIT.says("KINDS of a YARD by which all that was BORED of it is so: a SET.");
        IceSway x = Kit.told("y3 10,3 10;");
        KIT.due("nothing BORED: all", x.kinds(0), 15);
        KIT.due("kinds(-1)", x.kinds(-1), Kit.UNKNOWN);
        KIT.due("kinds(2)", x.kinds(2), Kit.UNKNOWN);
        // By COLD 10 ICE 10 becomes 20, 25, 20, 15; by COLD 1 it becomes 11, 11, 11, 10.
        x.bore(0, 1, 1, 11);
        KIT.due("not a bridge", x.kinds(0), 7);
        x.bore(0, 1, 10, 20);
        KIT.due("nor lumps", x.kinds(0), 5);
        x.bore(0, 1, 10, 25);
        KIT.due("nor any", x.kinds(0), 0);
        KIT.due("of another yard all", x.kinds(1), 15);
        x.bore(1, 1, 10, 15);
        KIT.due("a bridge", x.kinds(1), 8);
    }

    private static void kindsOfAnOpenYard() {
        KIT.says("each OPEN YARD has a third of the ICE that was broken there (cut) and, if it is plain, becomes lumps.");
        for (int kind = 0; kind <= 3; kind++) {
            IceSway x = Kit.told("y" + kind + " 32;b12 20 4 0;");
            x.out(999);
            x.bore(0, 0, 10, 0);
            KIT.due("no night: no ice", x.kinds(0), 15);
            // A third is 10; by COLD 10 that is 25 in lumps, which plain has become, 20 in a lock, 15 under a bridge.
            KIT.due("lumps, or what becomes lumps", openKinds(kind, 25), 1 + 2);
            KIT.due("a lock", openKinds(kind, 20), 4);
            KIT.due("a bridge", openKinds(kind, 15), 8);
            KIT.due("not from 0", openKinds(kind, 30), 0);
            KIT.due("one night shuts it, the next does not", openKindsByTwo(kind), 1 + 2);
        }
    }

    private static int openKinds(int kind, int ice) {
        IceSway x = Kit.told("y" + kind + " 32;b12 20 4 0;");
        x.out(999);
        x.bore(0, 1, 10, ice);
        return x.kinds(0);
    }

    private static int openKindsByTwo(int kind) {
        IceSway x = Kit.told("y" + kind + " 32;b12 20 4 0;");
        x.out(999);
        // 25 and 5 and 2.
        x.bore(0, 2, 10, 32);
        return x.kinds(0);
    }

    private static void bookAtMost() {
        KIT.says("THE BOOK (15 at most) tells ICE of YARDS");
        IceSway x = Kit.told("y0 5,1 6;");
        for (int i = 1; i <= 15; i++) {
            KIT.due("the " + i + "th", x.write(i % 2, 5 + i % 2), i);
        }
        KIT.due("the 16th", x.write(0, 6), Kit.FULL);
        KIT.due("fifteen", x.told(17), 15);
        KIT.due("the 16th is not among them", x.judge(), Kit.NONE);
        KIT.due("torn", x.tear(), 15);
        KIT.due("the first again", x.write(0, 6), 1);
        KIT.due("it is wrong", x.judge(), 0);
    }

    private static void bookNumbers() {
        KIT.says("An entry behind THE BOOK (0 .. 300): how many. UNKNOWN, OUTSIDE, FULL (15).");
        IceSway x = Kit.told("y0 5,1 6;");
        KIT.due("v -1", x.write(0, -1), Kit.OUTSIDE);
        KIT.due("v 301", x.write(0, 301), Kit.OUTSIDE);
        KIT.due("y -1", x.write(-1, 5), Kit.UNKNOWN);
        KIT.due("y 2", x.write(2, 5), Kit.UNKNOWN);
        KIT.due("none was taken", x.told(17), 0);
        KIT.due("v 0", x.write(0, 0), 1);
        KIT.due("v 300", x.write(0, 300), 2);
        KIT.due("y 1", x.write(1, 6), 3);
    }

    private static void firstWrong() {
        KIT.says("WRONG: the first that is otherwise now; NONE.");
        IceSway x = Kit.told("y0 5,1 6;");
        KIT.due("an empty book", x.judge(), Kit.NONE);
        for (int i = 0; i < 14; i++) {
            x.write(i % 2, 5 + i % 2);
            KIT.due("nothing is otherwise", x.judge(), Kit.NONE);
        }
        x.write(0, 6);
        KIT.due("the last", x.judge(), 14);
        x.thaw(1);
        KIT.due("now the first", x.judge(), 0);
        for (int off = -1; off <= 1; off++) {
            IceSway y = Kit.told("y0 5;");
            y.write(0, 5 + off);
            KIT.due("off by " + off, y.judge(), off == 0 ? Kit.NONE : 0);
        }
        IceSway two = Kit.told("y0 5;");
        two.write(0, 5);
        two.write(0, 1);
        two.write(0, 2);
        KIT.due("the first of two", two.judge(), 1);
        IceSway open = Kit.told("y0 5;");
        open.write(0, 0);
        open.out(999);
        KIT.due("an OPEN yard has ICE 0 now", open.judge(), Kit.NONE);
    }

    private static void tear() {
        KIT.says("Nothing BORED, THE BOOK is empty: how many both had.");
        IceSway x = Kit.told("y0 5;");
        KIT.due("neither", x.tear(), 0);
        x.bore(0, 0, 0, 1);
        KIT.due("one bored", x.tear(), 1);
        x.write(0, 1);
        KIT.due("one written", x.tear(), 1);
        for (int i = 0; i < 20; i++) {
            x.bore(0, 0, 0, 1);
            x.write(0, 1);
        }
        KIT.due("both full", x.tear(), 25);
        KIT.due("torn already", x.tear(), 0);
        KIT.due("kinds", x.kinds(0), 15);
        KIT.due("judge", x.judge(), Kit.NONE);
    }

    private static void seedBounds() {
        KIT.says("THE SEED becomes v (0 .. 2147483647): what it was. OUTSIDE.");
        IceSway x = new IceSway();
        KIT.due("0 at first", x.seed(2147483647), 0);
        KIT.due("v -1", x.seed(-1), Kit.OUTSIDE);
        KIT.due("v -2147483648", x.seed(Integer.MIN_VALUE), Kit.OUTSIDE);
        KIT.due("as it was", x.seed(0), 2147483647);
        KIT.due("0", x.seed(1), 0);
        KIT.due("1", x.seed(1), 1);
    }

    private static long next(long seed) {
        BigInteger s = BigInteger.valueOf(seed);
        BigInteger made = s.multiply(BigInteger.valueOf(1103515245)).add(BigInteger.valueOf(12345));
        return made.mod(BigInteger.TWO.pow(31)).longValueExact();
    }

    private static void seedLeftOver() {
        KIT.says("each DRAW it becomes it times 1103515245 and 12345, left over by 2 to the 31");
        for (int seed : new int[] {0, 1, 2, 3, 65535, 65536, 1073741823, 1073741824, 2147483646, 2147483647}) {
            IceSway x = new IceSway();
            x.seed(seed);
            x.drift(1);
            KIT.due("two draws from " + seed, x.seed(0), next(next(seed)));
            x.seed(seed);
            x.drift(2);
            KIT.due("four draws from " + seed, x.seed(0), next(next(next(next(seed)))));
        }
    }

    private static void drawsAtTheirBounds() {
        KIT.says("n nights: a DRAW of 5: 0 a THAW of a DRAW of 40, else a NIGHT of COLD a DRAW of 31.");
        boolean[] seen = new boolean[75];
        for (int seed = 0; seed < 3000; seed++) {
            long first = next(seed);
            long second = next(first);
            int kind = (int) (first / 65536 % 5);
            int by = (int) (second / 65536 % (kind == 0 ? 40 : 31));
            int sort = kind == 0 ? by : 40 + by;
            if (seen[sort]) {
                continue;
            }
            seen[sort] = true;
            IceSway x = Kit.told("y0 90;");
            x.seed(seed);
            KIT.due("seed " + seed + ", sort " + sort, x.drift(1), kind == 0 ? 90 - by : 90 + 20 * by / 100);
        }
        for (int sort = 0; sort < 71; sort++) {
            KIT.due("a seed was found for sort " + sort, seen[sort] ? 1 : 0, 1);
        }
        for (int kind = 0; kind < 5; kind++) {
            int seed = 0;
            while (next(seed) / 65536 % 5 != kind) {
                seed++;
            }
            long second = next(next(seed));
            IceSway x = Kit.told("y0 90;");
            x.seed(seed);
            int want = kind == 0 ? 90 - (int) (second / 65536 % 40) : 90 + 20 * (int) (second / 65536 % 31) / 100;
            KIT.due("a draw of " + kind, x.drift(1), want);
        }
    }

    private static void imageNumbers() {
        KIT.says("IMAGES 0, 1");
        IceSway x = Kit.told("y0 5;");
        for (int i : new int[] {-1, 2, 3, Integer.MIN_VALUE, Integer.MAX_VALUE}) {
            KIT.due("keep(" + i + ")", x.keep(i), Kit.UNKNOWN);
            KIT.due("goBack(" + i + ")", x.goBack(i), Kit.UNKNOWN);
        }
        for (int i = 0; i <= 1; i++) {
            KIT.due("goBack(" + i + ") ahead of keep", x.goBack(i), Kit.NOT);
            KIT.due("keep(" + i + ")", x.keep(i), 1);
            KIT.due("goBack(" + i + ")", x.goBack(i), 1);
        }
    }

    private static void imageNotKept() {
        KIT.says("What is so becomes IMAGE i: 1. UNKNOWN, NOT: it was not kept.");
        for (int i = 0; i <= 1; i++) {
            IceSway x = Kit.told("y0 5;");
            x.keep(1 - i);
            x.night(5, 1);
            KIT.due("the other was kept", x.goBack(i), Kit.NOT);
            KIT.due("nothing has changed", x.told(11), 1);
            KIT.due("that other", x.goBack(1 - i), 1);
            KIT.due("as it was", x.told(11), 0);
        }
    }

    private static void imageKeeps() {
        KIT.says("keep ICE, KINDS, what is OPEN, BEAT, NIGHTS, THE SEED.");
        IceSway x = Kit.told("y0 9,0 8,2 0;");
        x.out(3);
        x.night(0, 1);
        x.beat(9);
        x.seed(11);
        x.out(2);
        x.keep(0);
        int[] before = seen(x);
        x.out(999);
        x.thaw(1);
        x.beat(1);
        x.seed(12);
        x.keep(1);
        int[] between = seen(x);
        x.night(20, 5);
        x.bore(0, 1, 1, 1);
        x.write(0, 1);
        Kit.feedAll(x, "yy");
        KIT.due("back to 0", x.goBack(0), 1);
        alike("image 0", seen(x), before);
        KIT.due("back to 1", x.goBack(1), 1);
        alike("image 1", seen(x), between);
        KIT.due("back to 0 again", x.goBack(0), 1);
        alike("image 0 again", seen(x), before);
        KIT.due("what was BORED is not kept", x.told(16), 1);
        KIT.due("nor THE BOOK", x.told(17), 1);
        KIT.due("nor THE TEXT", x.told(10), 2);
        x.keep(1);
        x.night(20, 5);
        x.goBack(1);
        alike("image 1 kept anew", seen(x), before);
    }

    private static int[] seen(IceSway x) {
        int[] all = new int[13];
        for (int y = 0; y < 3; y++) {
            for (int what = 0; what < 3; what++) {
                all[3 * y + what] = x.yard(y, what);
            }
        }
        all[9] = x.told(15);
        all[10] = x.told(12);
        all[11] = x.told(11);
        all[12] = x.seed(0);
        x.seed(all[12]);
        return all;
    }

    private static void alike(String name, int[] got, int[] want) {
        for (int i = 0; i < want.length; i++) {
            KIT.due(name + ", " + i, got[i], want[i]);
        }
    }

    private static void imagesAreGone() {
        KIT.says("IMAGES are gone; THE SEED stays): how many YARDS; -10 less the number of its FAULT (all else is as it was).");
        IceSway x = Kit.told("y0 5;");
        x.keep(0);
        Kit.feedAll(x, "y0 5,");
        KIT.due("a fault", x.cut(), -11);
        KIT.due("the image is there yet", x.goBack(0), 1);
        Kit.feedAll(x, "y0 5;");
        KIT.due("a cut", x.cut(), 1);
        KIT.due("it is gone", x.goBack(0), Kit.NOT);
        x.keep(0);
        KIT.due("a cut of nothing", x.cut(), 0);
        KIT.due("it is gone", x.goBack(0), Kit.NOT);
    }

    private static void calls512() {
        KIT.says("An object is used for at most 512 calls after it has been made");
        IceSway x = Kit.told("y0 9,1 9;");
        int calls = 10;
        while (calls < 510) {
            x.plan(8, 999, 30, calls % 2);
            x.odds(8, 30, 60, 50, 999);
            calls += 2;
        }
        KIT.due("the 511th", x.night(0, 1), 18);
        KIT.due("the 512th", x.told(11), 1);
        IceSway full = new IceSway();
        for (int i = 0; i < 500; i++) {
            KIT.due("letter " + i, full.feed(' '), i < 230 ? i + 1 : Kit.FULL);
        }
        KIT.due("the 501st", full.cut(), 0);
        IceSway nights = Kit.told("y1 0;");
        for (int i = 6; i < 511; i++) {
            nights.night(30, 99);
        }
        KIT.due("the 512th", nights.told(11), 91 * 99);
    }
}
