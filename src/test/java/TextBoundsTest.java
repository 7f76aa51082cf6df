/** Section 1 and promises 2 to 4, sentence by sentence: what may just stand in a text, and what may not. */
final class TextBoundsTest {
    private static final Kit KIT = new Kit();
    /** Every number at its greatest, and no blank but those that are needed. */
    private static final String GREATEST = "y3 99,000 010;b12 20 9 20;g999 99;c20 99 999;";
    private static final String TWELVE = "y0 1,1 2,2 3,3 4,0 5,1 6,2 7,3 8,0 9,1 10,2 11,3 12";

    public static void main(String[] args) {
        letters();
        lettersAtMost();
        yardsAtLeastAndAtMost();
        kindOfAYard();
        iceOfAYard();
        yardsFirst();
        theBoat();
        theGap();
        theCoal();
        untold();
        figures();
        words();
        blanks();
        whatIsNoBlank();
        numbersSideBySide();
        firstLetterThatHasAFault();
        theEnd();
        theLeastFault();
        cannotStand();
        clauseAgain();
        thirteenthYard();
        noLetters();
        KIT.end();
    }

    private static void sound(String text, int yards) {
        IceSway x = new IceSway();
        Kit.feedAll(x, text);
        KIT.due("cut of '" + text + "'", x.cut(), yards);
        KIT.due("fault() of '" + text + "'", x.fault(), Kit.NONE);
        KIT.due("told(0) of '" + text + "'", x.told(0), yards);
        KIT.due("told(10) behind '" + text + "'", x.told(10), 0);
    }

    private static IceSway spared() {
        IceSway x = Kit.told("y0 9,2 9;b9 8 4 1;g5 4;c3 2 1;");
        x.keep(1);
        x.night(7, 2);
        x.beat(3);
        x.out(50);
        x.seed(31);
        x.bore(1, 0, 1, x.yard(1, 1));
        x.write(1, x.yard(1, 1));
        return x;
    }

    /** The fault as is due, the text empty, and all else as it was. */
    private static void faulty(String text, int number, int place) {
        IceSway x = spared();
        Kit.feedAll(x, text);
        KIT.due("cut of '" + text + "'", x.cut(), -10 - number);
        KIT.due("fault() of '" + text + "'", x.fault(), place);
        Twins.alikeButForFault(KIT, "all else is as it was by '" + text + "'", x, spared());
    }

    private static void letters() {
        KIT.says("One letter (a number 0 .. 255) comes behind THE TEXT: how many it has.");
        IceSway x = new IceSway();
        KIT.due("feed(0)", x.feed(0), 1);
        KIT.due("feed(255)", x.feed(255), 2);
        KIT.due("feed(-1)", x.feed(-1), Kit.OUTSIDE);
        KIT.due("feed(256)", x.feed(256), Kit.OUTSIDE);
        KIT.due("two", x.told(10), 2);
    }

    private static void lettersAtMost() {
        KIT.says("THE CUT is told in a text (230 letters at most)");
        String last = "y3 7;";
        IceSway x = new IceSway();
        Kit.feedAll(x, " ".repeat(225) + last.substring(0, 4));
        KIT.due("229 letters", x.told(10), 229);
        KIT.due("the 230th", x.feed(';'), 230);
        KIT.due("the 231st", x.feed('x'), Kit.FULL);
        KIT.due("the 232nd", x.feed('x'), Kit.FULL);
        KIT.due("all 230 are read, and no more", x.cut(), 1);
        KIT.due("its ice", x.yard(0, 1), 7);
        KIT.due("a text begins anew", x.feed('y'), 1);
        faulty(" ".repeat(226) + "y3 7", 1, 230);
        faulty(" ".repeat(225) + "y3 7", 1, 229);
        faulty(" ".repeat(229) + "x", 1, 229);
        faulty(" ".repeat(229) + "y", 1, 230);
    }

    private static void yardsAtLeastAndAtMost() {
        KIT.says("'y' K T {',' K T} ';' (1 to 12 YARDS, from here to the town");
        faulty("y;", 1, 1);
        sound("y0 0;", 1);
        sound("y0 0,0 0;", 2);
        sound(TWELVE.substring(0, TWELVE.lastIndexOf(',')) + ";", 11);
        sound(TWELVE + ";", 12);
        faulty(TWELVE + ",0 0;", 1, TWELVE.length());
        IceSway x = Kit.told(TWELVE + ";");
        for (int y = 0; y < 12; y++) {
            KIT.due("kind of " + y, x.yard(y, 0), y % 4);
            KIT.due("ice of " + y, x.yard(y, 1), y + 1);
        }
        KIT.due("a yard 12", x.yard(12, 0), Kit.UNKNOWN);
        KIT.due("a yard -1", x.yard(-1, 0), Kit.UNKNOWN);
    }

    private static void kindOfAYard() {
        KIT.says("of KIND K 0 .. 3");
        for (int kind = 0; kind <= 3; kind++) {
            sound("y" + kind + " 5;", 1);
            KIT.due("it is " + kind, Kit.told("y" + kind + " 5;").yard(0, 0), kind);
        }
        faulty("y4 5;", 2, 1);
        faulty("y0 5,4 5;", 2, 5);
        faulty(TWELVE.replace("3 12", "4 12") + ";", 2, TWELVE.length() - 4);
        faulty("y999 5;", 2, 1);
    }

    private static void iceOfAYard() {
        KIT.says("ICE T tenths of an inch, 0 .. 99");
        for (int ice : new int[] {0, 1, 98, 99}) {
            KIT.due("ice " + ice, Kit.told("y0 " + ice + ";").yard(0, 1), ice);
        }
        faulty("y0 100;", 2, 3);
        faulty("y0 999;", 2, 3);
        faulty("y0 99,1 100;", 2, 8);
        faulty(TWELVE + "0;", 2, TWELVE.length() - 2);
    }

    private static void yardsFirst() {
        KIT.says("first, once");
        faulty("b4 10 4 0;y0 0;", 1, 0);
        faulty("g60 20;y0 0;", 1, 0);
        faulty("c3 10 50;y0 0;", 1, 0);
        faulty("  b", 1, 2);
        sound("  y0 0;b4 10 4 0;", 1);
        faulty("y0 0;y0 0;", 3, 5);
        faulty("y0 0;b4 10 4 0;y0 0;", 3, 15);
    }

    private static void theBoat() {
        KIT.says("THE BOAT: HORSES H 1 .. 12, MEN M 0 .. 20, its own SWING P 2 .. 9, LAGGARDS L 0 .. 20");
        numberOf("b", new int[] {5, 5, 5, 5}, 0, 1, 12);
        numberOf("b", new int[] {5, 5, 5, 5}, 1, 0, 20);
        numberOf("b", new int[] {5, 5, 5, 5}, 2, 2, 9);
        numberOf("b", new int[] {5, 5, 5, 5}, 3, 0, 20);
    }

    private static void theGap() {
        KIT.says("a GAP shuts behind G minutes, 1 .. 999; a lock is freed in A minutes, 0 .. 99");
        numberOf("g", new int[] {5, 5}, 0, 1, 999);
        numberOf("g", new int[] {5, 5}, 1, 0, 99);
    }

    private static void theCoal() {
        KIT.says("COAL in the town for S days, 0 .. 20; a day out costs D, 0 .. 99; a day of want W, 0 .. 999");
        numberOf("c", new int[] {5, 5, 5}, 0, 0, 20);
        numberOf("c", new int[] {5, 5, 5}, 1, 0, 99);
        numberOf("c", new int[] {5, 5, 5}, 2, 0, 999);
    }

    /** Number i of a clause: told at both bounds, a fault at its first figure one beyond them. */
    private static void numberOf(String word, int[] others, int i, int least, int most) {
        int what = i + (word.equals("b") ? 1 : word.equals("g") ? 5 : 7);
        for (int v : new int[] {least, least + 1, most - 1, most}) {
            KIT.due("number " + i + " of " + word, Kit.told(clause(word, others, i, v) + ";").told(what), v);
        }
        int place = 6 + 2 * i;
        faulty(clause(word, others, i, most + 1) + ";", 2, place);
        if (least > 0) {
            faulty(clause(word, others, i, least - 1) + ";", 2, place);
        }
        faulty(clause(word, others, i, most + 1), 2, place);
    }

    private static String clause(String word, int[] others, int i, int v) {
        StringBuilder text = new StringBuilder("y0 0;").append(word);
        for (int j = 0; j < others.length; j++) {
            text.append(j == 0 ? "" : " ").append(j == i ? v : others[j]);
        }
        return text.toString();
    }

    private static void untold() {
        KIT.says("4 10 4 0 untold; once");
        toldAre("y0 0;", 4, 10, 4, 0, 60, 20, 3, 10, 50);
        toldAre("y0 0;b1 2 3 5;", 1, 2, 3, 5, 60, 20, 3, 10, 50);
        KIT.says("60 20 untold; once");
        toldAre("y0 0;g1 2;", 4, 10, 4, 0, 1, 2, 3, 10, 50);
        KIT.says("3 10 50 untold; once");
        toldAre("y0 0;c1 2 4;", 4, 10, 4, 0, 60, 20, 1, 2, 4);
        toldAre("y0 0;c1 2 4;g5 6;b7 8 9 11;", 7, 8, 9, 11, 5, 6, 1, 2, 4);
        IceSway x = Kit.told("y0 0;b1 2 3 5;g1 2;c1 2 4;");
        Kit.feedAll(x, "y0 0;");
        x.cut();
        KIT.due("untold in the next text: H", x.told(1), 4);
        KIT.due("untold in the next text: G", x.told(5), 60);
        KIT.due("untold in the next text: W", x.told(9), 50);
    }

    private static void toldAre(String text, int... want) {
        IceSway x = Kit.told(text);
        for (int i = 0; i < want.length; i++) {
            KIT.due(text + " told(" + (i + 1) + ")", x.told(i + 1), want[i]);
        }
    }

    private static void figures() {
        KIT.says("NUMBERS have one to three figures");
        sound("y0 1;", 1);
        sound("y00 01;", 1);
        sound("y000 001;", 1);
        KIT.due("leading zeros", Kit.told("y003 099;").yard(0, 1), 99);
        KIT.due("three figures", Kit.told("y0 0;c1 1 999;").told(9), 999);
        KIT.due("the least of three", Kit.told("y0 0;c1 1 100;").told(9), 100);
        faulty("y0 /;", 1, 3);
        faulty("y0 :;", 1, 3);
        faulty("y0 0/;", 1, 4);
        faulty("y0 0:;", 1, 4);
        faulty("y0 -1;", 1, 3);
        faulty("y0 +1;", 1, 3);
        KIT.says("2 a NUMBER of four figures or more, or out of its bounds (at its first).");
        faulty("y0000 1;", 2, 1);
        faulty("y0 0001;", 2, 3);
        faulty("y0 00001;", 2, 3);
        faulty("y0 0;c1 1 0999;", 2, 10);
        faulty("y0 0;c1 1 1000;", 2, 10);
        faulty("y0 0;c1 1 0000", 2, 10);
        faulty("y0 4294967296;", 2, 3);
        faulty("y0 18446744073709551616;", 2, 3);
        faulty("y0 " + "0".repeat(227), 2, 3);
    }

    private static void words() {
        KIT.says("a word is one letter");
        for (char near : "YBGCxzadfh;,0".toCharArray()) {
            faulty(near + "0 0;", 1, 0);
            faulty("y0 0;" + near + "1 1;", 1, 5);
        }
        faulty("yy0 0;", 1, 1);
        faulty("y0 0;bb4 10 4 0;", 1, 6);
        faulty("y0 0;gg1 1;", 1, 6);
        faulty("y0 0;cc1 1 1;", 1, 6);
        faulty((char) 249 + "0 0;", 1, 0);
        faulty((char) 0 + "y0 0;", 1, 0);
    }

    private static void blanks() {
        KIT.says("blanks (32) may stand anywhere but within NUMBERS");
        for (int at = 0; at <= GREATEST.length(); at++) {
            boolean within = at > 0 && at < GREATEST.length()
                    && Character.isDigit(GREATEST.charAt(at - 1)) && Character.isDigit(GREATEST.charAt(at));
            for (int n : new int[] {1, 2, 150}) {
                String text = GREATEST.substring(0, at) + " ".repeat(n) + GREATEST.substring(at);
                IceSway x = new IceSway();
                Kit.feedAll(x, text);
                int got = x.cut();
                KIT.due("cut of '" + text + "'", within ? (got <= -11 ? 1 : got) : got, within ? 1 : 2);
            }
        }
        faulty("y0 1 0;", 1, 5);
        faulty("y0 0;c1 1 9 9;", 1, 12);
    }

    private static void whatIsNoBlank() {
        KIT.says("blanks (32)");
        for (char no : new char[] {0, 9, 10, 13, 31, 33, 160}) {
            faulty(no + "y0 0;", 1, 0);
            faulty("y" + no + "0 0;", 1, 1);
            faulty("y0" + no + "0;", 1, 2);
            faulty("y0 0" + no + ";", 1, 4);
            faulty("y0 0;" + no, 1, 5);
        }
    }

    private static void numbersSideBySide() {
        KIT.says("two NUMBERS side by side need one");
        faulty("y00;", 1, 3);
        faulty("y05;", 2, 1);
        faulty("y0 0;b410 4 0;", 2, 6);
        faulty("y0 0;b4 104 0;", 2, 8);
        faulty("y0 0;b4 10 40;", 2, 11);
        faulty("y0 0;g6020;", 2, 6);
        faulty("y0 0;g20;", 1, 8);
        faulty("y0 0;c3 1050;", 2, 8);
        sound("y0 0,1 1;b4 10 4 0;g60 20;c3 10 50;", 2);
    }

    private static void firstLetterThatHasAFault() {
        KIT.says("FAULTS, at the first letter that has one");
        faulty("y4 0;x", 2, 1);
        faulty("y0 0;x4 y", 1, 5);
        faulty("y0 0;y4 x", 3, 5);
        faulty("y0 x,4 0;", 1, 3);
        faulty("y0 100 x;", 2, 3);
        faulty("y0 0;g0 100;", 2, 6);
        faulty("y0 0;g1 100;", 2, 8);
        faulty("y0 0;b1 1 1 21;", 2, 10);
        faulty("y0 100,4 0;", 2, 3);
        faulty("y1000", 2, 1);
        faulty("b0", 1, 0);
    }

    private static void theEnd() {
        KIT.says("(the end at the text's length)");
        for (int end = 0; end <= GREATEST.length(); end++) {
            String text = GREATEST.substring(0, end);
            if (text.isEmpty()) {
                sound(text, 0);
            } else if (text.endsWith(";")) {
                sound(text, 2);
            } else {
                faulty(text, 1, end);
                faulty(text + "   ", 1, end + 3);
            }
        }
    }

    private static void theLeastFault() {
        KIT.says("of these the least");
        faulty("y0 0;1000", 1, 5);
        faulty("y0 0 1000;", 1, 5);
        faulty("1000", 1, 0);
        faulty("y0 0;b1 1 2 0 1000;", 1, 14);
        faulty("y0 0;g1 1;g", 3, 10);
        faulty("y0 0;g1 g1;", 1, 8);
        faulty("y0 0y", 1, 4);
        faulty("y0 0,y", 1, 5);
        faulty("y0 0;g1 1g", 1, 9);
    }

    private static void cannotStand() {
        KIT.says("1 it cannot stand there (a letter that is no word, another word first than 'y';");
        faulty("y,0 0;", 1, 1);
        faulty("y0,0;", 1, 2);
        faulty("y0;", 1, 2);
        faulty("y0 0,;", 1, 5);
        faulty("y0 0,,0 0;", 1, 5);
        faulty("y0 0 0;", 1, 5);
        faulty("y0 0;;", 1, 5);
        faulty("y0 0;,", 1, 5);
        faulty("y0 0;0", 1, 5);
        faulty("y0 0;b4 10 4;", 1, 12);
        faulty("y0 0;b4 10 4 0 0;", 1, 15);
        faulty("y0 0;b4,10 4 0;", 1, 7);
        faulty("y0 0;b;", 1, 6);
        faulty("y0 0;g60;", 1, 8);
        faulty("y0 0;g60 20 1;", 1, 12);
        faulty("y0 0;g60 20,", 1, 11);
        faulty("y0 0;c3 10;", 1, 10);
        faulty("y0 0;c3 10 50 1;", 1, 14);
        faulty("y0 0b4 10 4 0;", 1, 4);
    }

    private static void clauseAgain() {
        KIT.says("3 a clause again (at it).");
        faulty("y0 0;y", 3, 5);
        faulty("y0 0; y", 3, 6);
        faulty("y0 0;b1 1 2 0;b", 3, 14);
        faulty("y0 0;g1 1;g", 3, 10);
        faulty("y0 0;c1 1 1;c", 3, 12);
        faulty("y0 0;b1 1 2 0;g1 1;c1 1 1;y", 3, 26);
        faulty("y0 0;b1 1 2 0;g1 1;c1 1 1;b", 3, 26);
        faulty("y0 0;b1 1 2 0;g1 1;c1 1 1;g", 3, 26);
        faulty("y0 0;b1 1 2 0;g1 1;c1 1 1;c", 3, 26);
        sound("y0 0;b1 1 2 0;g1 1;c1 1 1;", 1);
        IceSway x = Kit.told("y0 0;g1 1;");
        Kit.feedAll(x, "y0 0,0 0;g1 1;");
        KIT.due("in another text it is not again", x.cut(), 2);
    }

    private static void thirteenthYard() {
        KIT.says("a 13th YARD: at its ','");
        faulty(TWELVE + ",", 1, TWELVE.length());
        faulty(TWELVE + ",0 0;", 1, TWELVE.length());
        faulty(TWELVE + "  ,0 0;", 1, TWELVE.length() + 2);
        faulty(TWELVE + ",9 999;", 1, TWELVE.length());
        sound(TWELVE + " ;", 12);
        faulty(TWELVE + " 0;", 1, TWELVE.length() + 1);
        String eleven = TWELVE.substring(0, TWELVE.lastIndexOf(','));
        faulty(eleven + ",", 1, eleven.length() + 1);
    }

    private static void noLetters() {
        KIT.says("An empty text (or one of blanks alone) has no FAULT: no YARDS.");
        for (int n : new int[] {0, 1, 2, 229, 230}) {
            sound(" ".repeat(n), 0);
        }
        faulty(" x", 1, 1);
        IceSway x = spared();
        KIT.due("an empty text behind another", x.cut(), 0);
        int[] want = {0, 4, 10, 4, 0, 60, 20, 3, 10, 50, 0, 0, 4, 30, 46, 0, 0, 0};
        for (int what = 0; what < want.length; what++) {
            KIT.due("told(" + what + ")", x.told(what), want[what]);
        }
    }
}
