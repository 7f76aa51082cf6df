/** Promises 28 to 30: seed, keep, goBack. */
final class ImagesTest {
    private static final Kit KIT = new Kit();

    public static void main(String[] args) {
        seed();
        refusals();
        keepsAll();
        leavesTheRest();
        twoImages();
        withoutYards();
        KIT.end();
    }

    private static void seed() {
        IceSway x = new IceSway();
        KIT.due("seed(2147483647)", x.seed(2147483647), 0);
        KIT.due("seed(-1)", x.seed(-1), Kit.OUTSIDE);
        KIT.due("seed(least int)", x.seed(Integer.MIN_VALUE), Kit.OUTSIDE);
        KIT.due("seed(0)", x.seed(0), 2147483647);
        x.seed(2147483647);
        x.drift(1);
        long s = 2147483647L;
        for (int i = 0; i < 2; i++) {
            s = (s * 1103515245L + 12345L) % 2147483648L;
        }
        KIT.due("two draws from the greatest seed", x.seed(0), s);
    }

    private static void refusals() {
        IceSway x = Kit.told("y0 5;");
        for (int i : new int[] {-1, 2, Integer.MAX_VALUE, Integer.MIN_VALUE}) {
            KIT.due("keep(" + i + ")", x.keep(i), Kit.UNKNOWN);
            KIT.due("goBack(" + i + ")", x.goBack(i), Kit.UNKNOWN);
        }
        KIT.due("goBack(0)", x.goBack(0), Kit.NOT);
        KIT.due("keep(1)", x.keep(1), 1);
        KIT.due("goBack(0) yet", x.goBack(0), Kit.NOT);
        KIT.due("goBack(1)", x.goBack(1), 1);
    }

    private static void keepsAll() {
        IceSway x = Kit.told("y0 9,2 8,3 0;b12 20 4 0;");
        x.night(0, 3);
        x.beat(6);
        x.seed(99);
        x.out(2);
        KIT.due("one open", x.told(15), 1);
        KIT.due("keep(0)", x.keep(0), 1);
        x.out(999);
        x.night(20, 9);
        x.beat(2);
        x.drift(3);
        KIT.due("goBack(0)", x.goBack(0), 1);
        int[] kinds = {0, 2, 3};
        int[] ice = {0, 8, 0};
        int[] broken = {9, 0, 0};
        for (int y = 0; y < 3; y++) {
            KIT.due("kind of " + y, x.yard(y, 0), kinds[y]);
            KIT.due("ice of " + y, x.yard(y, 1), ice[y]);
            KIT.due("broken of " + y, x.yard(y, 2), broken[y]);
        }
        KIT.due("nights", x.told(11), 3);
        KIT.due("beat", x.told(12), 6);
        KIT.due("open", x.told(15), 1);
        KIT.due("seed", x.seed(1), 99);
        KIT.due("and on from there", x.thaw(0), 3 + 8);
        KIT.due("a second time", x.goBack(0), 1);
        KIT.due("seed again", x.seed(1), 99);
        KIT.due("the image is not what goes on", x.yard(0, 1), 0);
    }

    private static void leavesTheRest() {
        IceSway x = Kit.told("y0 9;");
        x.bore(0, 1, 1, 1);
        x.keep(0);
        x.bore(0, 1, 1, 1);
        x.write(0, 9);
        Kit.feedAll(x, "yy");
        x.goBack(0);
        KIT.due("bored", x.told(16), 2);
        KIT.due("book", x.told(17), 1);
        KIT.due("text", x.told(10), 2);
        KIT.due("cut", x.cut(), -11);
        KIT.due("the image stays behind a fault", x.goBack(0), 1);
        KIT.due("the fault stays", x.fault(), 1);
    }

    private static void twoImages() {
        IceSway x = Kit.told("y0 9;");
        x.keep(0);
        x.night(10, 1);
        x.keep(1);
        x.night(10, 1);
        x.goBack(0);
        KIT.due("image 0", x.yard(0, 1), 9);
        x.goBack(1);
        KIT.due("image 1", x.yard(0, 1), 19);
        x.keep(0);
        x.night(10, 1);
        x.goBack(0);
        KIT.due("image 0 kept anew", x.yard(0, 1), 19);
        KIT.due("nights", x.told(11), 1);
    }

    private static void withoutYards() {
        IceSway x = new IceSway();
        KIT.due("keep(0) without yards", x.keep(0), 1);
        x.beat(9);
        x.night(1, 1);
        KIT.due("goBack(0) without yards", x.goBack(0), 1);
        KIT.due("beat", x.told(12), 4);
        KIT.due("nights", x.told(11), 0);
    }
}
