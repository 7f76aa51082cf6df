/** Promises 1 to 7: a new object, feed, cut, fault, told, yard, grows. */
final class CutTest {
    private static final Kit KIT = new Kit();

    public static void main(String[] args) {
        newObject();
        feed();
        cutAndUntold();
        cutClears();
        cutWithFault();
        lettersOfEarlierTexts();
        faultOne();
        faultTwo();
        faultThree();
        bounds();
        told();
        swayAndForce();
        yard();
        grows();
        KIT.end();
    }

    private static void newObject() {
        IceSway x = new IceSway();
        int[] want = {0, 4, 10, 4, 0, 60, 20, 3, 10, 50, 0, 0, 4, 30, 46, 0, 0, 0};
        for (int what = 0; what < want.length; what++) {
            KIT.due("new: told(" + what + ")", x.told(what), want[what]);
        }
        KIT.due("new: fault()", x.fault(), Kit.NONE);
        KIT.due("new: yard(0, 0)", x.yard(0, 0), Kit.UNKNOWN);
        KIT.due("new: seed(1)", x.seed(1), 0);
        KIT.due("new: goBack(0)", x.goBack(0), Kit.NOT);
        KIT.due("new: goBack(1)", x.goBack(1), Kit.NOT);
    }

    private static void feed() {
        IceSway x = new IceSway();
        KIT.due("feed(-1)", x.feed(-1), Kit.OUTSIDE);
        KIT.due("feed(256)", x.feed(256), Kit.OUTSIDE);
        KIT.due("feed(least int)", x.feed(Integer.MIN_VALUE), Kit.OUTSIDE);
        KIT.due("feed(0)", x.feed(0), 1);
        KIT.due("feed(255)", x.feed(255), 2);
        for (int i = 3; i <= 230; i++) {
            KIT.due("feed, letter " + i, x.feed(' '), i);
        }
        KIT.due("feed, letter 231", x.feed(' '), Kit.FULL);
        KIT.due("feed(256) on a full text", x.feed(256), Kit.OUTSIDE);
        KIT.due("told(10) of a full text", x.told(10), 230);
        KIT.due("cut of a full text with a 0 first", x.cut(), -11);
        KIT.due("its fault()", x.fault(), 0);
        KIT.due("feed behind it", x.feed('y'), 1);
    }

    private static void cutAndUntold() {
        cutIs("", 0);
        cutIs("   ", 0);
        cutIs("y0 0;", 1);
        cutIs(" y 0  0 , 3 99 ; ", 2);
        cutIs("y000 099,1 1;c1 2 3;g1 2;b1 2 3 4;", 2);
        cutIs("y0 1,0 1,0 1,0 1,0 1,0 1,0 1,0 1,0 1,0 1,0 1,0 1;", 12);
        IceSway x = Kit.told("y0 1;g7 8;");
        int[] want = {1, 4, 10, 4, 0, 7, 8, 3, 10, 50};
        for (int what = 0; what < want.length; what++) {
            KIT.due("g alone is told: told(" + what + ")", x.told(what), want[what]);
        }
    }

    private static void cutClears() {
        IceSway x = Kit.told("y0 9,1 9;b5 6 7 1;g7 8;c4 5 6;");
        x.beat(7);
        x.out(999);
        x.bore(0, 1, 1, 1);
        x.write(0, 5);
        x.keep(0);
        x.keep(1);
        x.seed(77);
        x.night(3, 2);
        x.out(1);
        KIT.due("cut of nothing", x.cut(), 0);
        int[] want = {0, 4, 10, 4, 0, 60, 20, 3, 10, 50, 0, 0, 4, 30, 46, 0, 0, 0};
        for (int what = 0; what < want.length; what++) {
            KIT.due("behind a cut of nothing: told(" + what + ")", x.told(what), want[what]);
        }
        KIT.due("goBack(0) behind a cut", x.goBack(0), Kit.NOT);
        KIT.due("goBack(1) behind a cut", x.goBack(1), Kit.NOT);
        KIT.due("the seed stays", x.seed(0), 77);

        IceSway y = Kit.told("y0 9,0 9;");
        y.out(999);
        KIT.due("open ahead of the cut", y.told(15), 3);
        Kit.feedAll(y, "y0 9,0 9,0 9;");
        KIT.due("cut anew", y.cut(), 3);
        KIT.due("nothing open", y.told(15), 0);
        KIT.due("nothing broken", y.yard(0, 2), 0);
        KIT.due("plain stays plain", y.night(0, 1), 27);
        KIT.due("kind", y.yard(0, 0), 0);
    }

    private static void cutWithFault() {
        IceSway x = Kit.told("y0 9,1 9;b5 6 7 1;");
        x.beat(7);
        x.bore(0, 1, 1, 1);
        x.write(0, 5);
        x.keep(1);
        x.night(3, 2);
        x.out(999);
        int ice = x.yard(0, 2);
        Kit.feedAll(x, "y3 7,2 8;b1 1 2 0;g1 1;c0 0 0;x");
        KIT.due("faulty cut", x.cut(), -11);
        KIT.due("its place", x.fault(), 30);
        KIT.due("its text is empty", x.told(10), 0);
        int[] want = {2, 5, 6, 7, 1, 60, 20, 3, 10, 50, 0, 2, 7, 13, 33, 3, 1, 1};
        for (int what = 0; what < want.length; what++) {
            KIT.due("behind a faulty cut: told(" + what + ")", x.told(what), want[what]);
        }
        KIT.due("broken stays", x.yard(0, 2), ice);
        KIT.due("kind stays", x.yard(1, 0), 1);
        KIT.due("image stays", x.goBack(1), 1);
        KIT.due("cut of nothing", x.cut(), 0);
        KIT.due("a sound cut has no fault", x.fault(), Kit.NONE);
    }

    /** A text ends where it ends, whatever stood there in a longer one, and a full one is read to its end. */
    private static void lettersOfEarlierTexts() {
        IceSway x = new IceSway();
        Kit.feedAll(x, "y0 55;");
        KIT.due("a longer text", x.cut(), 1);
        Kit.feedAll(x, "y0 5");
        KIT.due("a shorter one", x.cut(), -11);
        KIT.due("its end", x.fault(), 4);
        Kit.feedAll(x, "y0 5     ;");
        KIT.due("with blanks", x.cut(), 1);
        Kit.feedAll(x, "y0 5");
        KIT.due("without them", x.cut(), -11);
        KIT.due("its end", x.fault(), 4);
        Kit.feedAll(x, "y0 5;" + " ".repeat(225));
        KIT.due("full of blanks", x.cut(), 1);
        Kit.feedAll(x, " ".repeat(226) + "y0 5");
        KIT.due("full, with no end", x.cut(), -11);
        KIT.due("its end", x.fault(), 230);
        Kit.feedAll(x, " ".repeat(225) + "y0 5;");
        KIT.due("full, with its end last", x.cut(), 1);
        Kit.feedAll(x, " ".repeat(230));
        KIT.due("blanks alone", x.cut(), 0);
    }

    private static void faultOne() {
        faultIs("b4 10 4 0;y0 0;", 1, 0);
        faultIs("  b", 1, 2);
        faultIs(";", 1, 0);
        faultIs("5", 1, 0);
        faultIs("12345", 1, 0);
        faultIs("Y0 0;", 1, 0);
        faultIs("\ty0 0;", 1, 0);
        faultIs("y", 1, 1);
        faultIs("y  ", 1, 3);
        faultIs("y0", 1, 2);
        faultIs("y0;", 1, 2);
        faultIs("y0,0;", 1, 2);
        faultIs("y0 0", 1, 4);
        faultIs("y0 0  ", 1, 6);
        faultIs("y0 0,", 1, 5);
        faultIs("y0 0,;", 1, 5);
        faultIs("y0 0 0;", 1, 5);
        faultIs("y0 0 1234;", 1, 5);
        faultIs("y0 0y", 1, 4);
        faultIs("y;", 1, 1);
        faultIs("yy", 1, 1);
        faultIs("y0 0;;", 1, 5);
        faultIs("y0 0;x", 1, 5);
        faultIs("y0 0;7", 1, 5);
        faultIs("y0 0;,0 0;", 1, 5);
        faultIs("y0 0;b4 10 4;", 1, 12);
        faultIs("y0 0;b4 10 4 0 0;", 1, 15);
        faultIs("y0 0;b4,10 4 0;", 1, 7);
        faultIs("y0 0;b", 1, 6);
        faultIs("y0 0;g5;", 1, 7);
        faultIs("y0 0;g5 5", 1, 9);
        faultIs("y0 0;c1 2 3,", 1, 11);
        faultIs("y0 -1;", 1, 3);
        String twelve = "y0 1,0 1,0 1,0 1,0 1,0 1,0 1,0 1,0 1,0 1,0 1,0 1";
        faultIs(twelve + ",", 1, 48);
        faultIs(twelve + " ,9 9;", 1, 49);
        faultIs(twelve + ",0 1;", 1, 48);
    }

    private static void faultTwo() {
        faultIs("y4 0;", 2, 1);
        faultIs("y 4 0;", 2, 2);
        faultIs("y0 100;", 2, 3);
        faultIs("y05;", 2, 1);
        faultIs("y0000 0;", 2, 1);
        faultIs("y0 0001;", 2, 3);
        faultIs("y0 12345678901234567890;", 2, 3);
        faultIs("y0 4294967296;", 2, 3);
        faultIs("y0 100", 2, 3);
        faultIs("y9x", 2, 1);
        faultIs("y0 1,1 1,2 999,x", 2, 11);
        faultIs("y0 0;b4 10 4 0000;", 2, 13);
    }

    private static void faultThree() {
        faultIs("y0 0;y0 0;", 3, 5);
        faultIs("y0 0;y", 3, 5);
        faultIs("y0 0;b1 1 2 0; b", 3, 15);
        faultIs("y0 0;g1 1;c1 1 1;g", 3, 17);
        faultIs("y0 0;c1 1 1;cx", 3, 12);
        faultIs("y0 0;c1 1 1;g1 1;y9", 3, 17);
    }

    /** Each number of b, g and c at its bounds and one beyond. */
    private static void bounds() {
        int[] least = {1, 0, 2, 0, 1, 0, 0, 0, 0};
        int[] most = {12, 20, 9, 20, 999, 99, 20, 99, 999};
        for (int i = 0; i < least.length; i++) {
            KIT.due("least of number " + i, Kit.told(clauseWith(i, least[i])).told(i + 1), least[i]);
            KIT.due("most of number " + i, Kit.told(clauseWith(i, most[i])).told(i + 1), most[i]);
            String over = clauseWith(i, most[i] + 1);
            int place = over.indexOf(String.valueOf(most[i] + 1), 5);
            faultIs(over, 2, place);
            if (least[i] > 0) {
                String under = clauseWith(i, least[i] - 1);
                faultIs(under, 2, under.indexOf(String.valueOf(least[i] - 1), 6));
            }
        }
        for (int kind = 0; kind <= 3; kind++) {
            KIT.due("kind " + kind, Kit.told("y" + kind + " 99;").yard(0, 0), kind);
        }
    }

    /** A text in which the told number i is v and the others of its clause are 5. */
    private static String clauseWith(int i, int v) {
        int first = i < 4 ? 0 : i < 6 ? 4 : 6;
        int end = i < 4 ? 4 : i < 6 ? 6 : 9;
        StringBuilder text = new StringBuilder("y0 0;").append(i < 4 ? 'b' : i < 6 ? 'g' : 'c');
        for (int j = first; j < end; j++) {
            text.append(j == i ? v : 5).append(' ');
        }
        return text.append(';').toString();
    }

    private static void told() {
        IceSway x = Kit.told("y0 9,1 9,2 0;b5 6 7 1;g8 9;c10 11 12;");
        Kit.feedAll(x, "abc");
        x.beat(7);
        x.night(0, 3);
        x.out(999);
        x.bore(0, 0, 0, 0);
        x.bore(1, 0, 0, 0);
        x.write(0, 0);
        int[] want = {3, 5, 6, 7, 1, 8, 9, 10, 11, 12, 3, 3, 7, 13, 33, 3, 2, 1};
        for (int what = 0; what < want.length; what++) {
            KIT.due("told(" + what + ")", x.told(what), want[what]);
        }
        KIT.due("told(-1)", x.told(-1), Kit.OUTSIDE);
        KIT.due("told(18)", x.told(18), Kit.OUTSIDE);
        KIT.due("told(greatest int)", x.told(Integer.MAX_VALUE), Kit.OUTSIDE);
    }

    private static void swayAndForce() {
        swayIs("y0 0;b1 20 5 0;", 5, 60, 64);
        swayIs("y0 0;b1 20 5 0;", 4, 20, 24);
        swayIs("y0 0;b1 20 5 0;", 6, 20, 24);
        swayIs("y0 0;b1 20 5 0;", 3, 6, 10);
        swayIs("y0 0;b1 20 5 0;", 9, 6, 10);
        swayIs("y0 0;b3 20 5 6;", 5, 30, 42);
        swayIs("y0 0;b3 20 5 6;", 6, 2, 14);
        swayIs("y0 0;b3 20 5 6;", 7, 0, 12);
        swayIs("y0 0;b2 3 5 20;", 5, 0, 8);
        swayIs("y0 0;b2 0 5 0;", 5, 0, 8);
        swayIs("y0 0;b12 20 9 1;", 9, 55, 103);
    }

    private static void swayIs(String text, int beat, int sway, int force) {
        IceSway x = Kit.told(text);
        KIT.due(text + " beat(" + beat + ")", x.beat(beat), force);
        KIT.due(text + " sway", x.told(13), sway);
        KIT.due(text + " force", x.told(14), force);
    }

    private static void yard() {
        IceSway x = Kit.told("y1 10,2 20;");
        KIT.due("yard(0, 0)", x.yard(0, 0), 1);
        KIT.due("yard(1, 0)", x.yard(1, 0), 2);
        KIT.due("yard(0, 1)", x.yard(0, 1), 10);
        KIT.due("yard(1, 1)", x.yard(1, 1), 20);
        KIT.due("yard(1, 2)", x.yard(1, 2), 0);
        KIT.due("yard(2, 0)", x.yard(2, 0), Kit.UNKNOWN);
        KIT.due("yard(-1, 0)", x.yard(-1, 0), Kit.UNKNOWN);
        KIT.due("yard(2, 9)", x.yard(2, 9), Kit.UNKNOWN);
        KIT.due("yard(0, 3)", x.yard(0, 3), Kit.OUTSIDE);
        KIT.due("yard(0, -1)", x.yard(0, -1), Kit.OUTSIDE);
        x.out(999);
        KIT.due("broken", x.yard(1, 2), 20);
        KIT.due("no ice", x.yard(1, 1), 0);
        x.out(999);
        KIT.due("still broken behind a day without ice", x.yard(1, 2), 20);
        x.thaw(0);
        KIT.due("shut", x.yard(1, 2), 0);
        KIT.due("a third of it", x.yard(1, 1), 6);
    }

    private static void grows() {
        IceSway x = Kit.told("y0 7,1 7,2 7,3 7;");
        int[] by30 = {35, 52, 35, 17};
        int[] by1 = {1, 1, 1, 0};
        for (int y = 0; y < 4; y++) {
            KIT.due("grows(" + y + ", 30)", x.grows(y, 30), by30[y]);
            KIT.due("grows(" + y + ", 1)", x.grows(y, 1), by1[y]);
            KIT.due("grows(" + y + ", 0)", x.grows(y, 0), 0);
        }
        KIT.due("grows(4, 5)", x.grows(4, 5), Kit.UNKNOWN);
        KIT.due("grows(-1, 5)", x.grows(-1, 5), Kit.UNKNOWN);
        KIT.due("grows(4, 31)", x.grows(4, 31), Kit.UNKNOWN);
        KIT.due("grows(0, 31)", x.grows(0, 31), Kit.OUTSIDE);
        KIT.due("grows(0, -1)", x.grows(0, -1), Kit.OUTSIDE);
        x.out(999);
        KIT.due("an open yard, as it is now", x.grows(0, 30), 60);
    }

    private static void cutIs(String text, int want) {
        IceSway x = new IceSway();
        Kit.feedAll(x, text);
        KIT.due("cut of '" + text + "'", x.cut(), want);
        KIT.due("fault() of '" + text + "'", x.fault(), Kit.NONE);
        KIT.due("told(0) of '" + text + "'", x.told(0), want);
    }

    private static void faultIs(String text, int number, int place) {
        IceSway x = new IceSway();
        Kit.feedAll(x, text);
        KIT.due("cut of '" + text + "'", x.cut(), -10 - number);
        KIT.due("fault() of '" + text + "'", x.fault(), place);
        KIT.due("no yards by '" + text + "'", x.told(0), 0);
    }
}
