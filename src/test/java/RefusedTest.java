import java.util.Arrays;
import java.util.List;
import java.util.function.Supplier;

/** Terms: each number on both sides of its bounds, the order of the refusals, and that what is refused changes nothing. */
final class RefusedTest {
    private static final Kit KIT = new Kit();
    private static final int[] UNKNOWN_THEN_OUTSIDE = {Kit.UNKNOWN, Kit.OUTSIDE, Kit.OUTSIDE, Kit.OUTSIDE};
    private static final int[] OUTSIDE_ALL = {Kit.OUTSIDE, Kit.OUTSIDE, Kit.OUTSIDE, Kit.OUTSIDE, Kit.OUTSIDE};

    /** States without yards: a new object, and one on which much has been done. */
    private static final List<Supplier<IceSway>> BARE = List.of(IceSway::new, RefusedTest::withoutYards);

    /** A call with its numbers in a row. */
    private interface Call {
        int on(IceSway x, int[] numbers);
    }

    public static void main(String[] args) {
        statesAreWhatTheyAreFor();
        boundsOfTheCut();
        boundsOfWhatIsDone();
        boundsOfWhatIsTried();
        boundsOfRecordsAndImages();
        unknownWithoutYards();
        unknownAheadOfOutside();
        unknownAheadOfNot();
        unknownAheadOfFull();
        outsideAheadOfNot();
        outsideAheadOfFull();
        notRefused();
        fullRefused();
        triedChangesNothing();
        farBelow();
        KIT.end();
    }

    // ---- states

    /** Four yards, two of them open; what is now, image 0 and image 1 all differ; all records hold; half a text is fed. */
    static IceSway busy() {
        IceSway x = Kit.told("y0 20,1 12,2 9,3 5;b4 10 5 2;g30 15;c2 20 100;");
        Kit.feedAll(x, "yx");
        x.cut();
        x.seed(77);
        x.keep(0);
        x.night(3, 2);
        x.beat(5);
        x.out(15);
        x.seed(78);
        x.keep(1);
        x.thaw(1);
        x.beat(6);
        x.out(10);
        x.seed(79);
        x.bore(0, 0, 1, x.yard(0, 1));
        x.bore(3, 0, 2, x.yard(3, 1));
        x.write(0, x.yard(0, 1));
        x.write(2, x.yard(2, 1));
        Kit.feedAll(x, "y1 2,3 ");
        return x;
    }

    private static IceSway withoutYards() {
        IceSway x = new IceSway();
        Kit.feedAll(x, "z");
        x.cut();
        x.keep(1);
        x.beat(7);
        x.night(5, 3);
        x.seed(12);
        Kit.feedAll(x, "y2 8,1 ");
        return x;
    }

    private static IceSway withFullText() {
        IceSway x = busy();
        Kit.feedAll(x, "7;" + " ".repeat(221));
        return x;
    }

    private static IceSway withFullRecords() {
        IceSway x = busy();
        for (int i = 2; i < 10; i++) {
            x.bore(i % 4, 0, 3, x.yard(i % 4, 1));
        }
        for (int i = 2; i < 15; i++) {
            x.write(i % 4, x.yard(i % 4, 1));
        }
        return x;
    }

    private static IceSway withTooManyNights() {
        IceSway x = Kit.told("y0 40,1 12;");
        Kit.passNights(x, 9000);
        x.keep(0);
        x.thaw(1);
        x.out(999);
        x.seed(4);
        Kit.feedAll(x, "y1 2,3 ");
        return x;
    }

    /** What is refused is only seen to change nothing where there is something that it could change. */
    private static void statesAreWhatTheyAreFor() {
        IceSway x = busy();
        KIT.due("busy: two open", Integer.bitCount(x.told(15)), 2);
        KIT.due("busy: what was bored holds", x.kinds(0) & x.kinds(3), 15);
        KIT.due("busy: the book holds", x.judge(), Kit.NONE);
        KIT.due("busy: the fault of the latest text", x.fault(), 1);
        KIT.due("busy: three winters", x.told(11), 3);
        KIT.due("busy: back to image 1", x.goBack(1), 1);
        KIT.due("busy: it differs", x.told(11), 2);
        KIT.due("busy: back to image 0", x.goBack(0), 1);
        KIT.due("busy: it differs", x.told(11), 0);
        KIT.due("a full text", withFullText().told(10), 230);
        KIT.due("full of what was bored", withFullRecords().told(16), 10);
        KIT.due("a full book", withFullRecords().told(17), 15);
        KIT.due("which holds", withFullRecords().judge(), Kit.NONE);
        KIT.due("too many nights", withTooManyNights().told(11), 9001);
        KIT.due("no yards", withoutYards().told(0), 0);
    }

    // ---- each number on both sides of its bounds

    private static void boundsOfTheCut() {
        bounds("feed", (x, a) -> x.feed(a[0]), new int[] {'y'}, new int[] {0, 255}, OUTSIDE_ALL);
        bounds("told", (x, a) -> x.told(a[0]), new int[] {5}, new int[] {0, 17}, OUTSIDE_ALL);
        bounds("yard", (x, a) -> x.yard(a[0], a[1]), new int[] {1, 1}, new int[] {0, 3, 0, 2}, UNKNOWN_THEN_OUTSIDE);
        bounds("grows", (x, a) -> x.grows(a[0], a[1]), new int[] {1, 7}, new int[] {0, 3, 0, 30}, UNKNOWN_THEN_OUTSIDE);
    }

    private static void boundsOfWhatIsDone() {
        bounds("night", (x, a) -> x.night(a[0], a[1]), new int[] {9, 3}, new int[] {0, 30, 1, 99}, OUTSIDE_ALL);
        bounds("thaw", (x, a) -> x.thaw(a[0]), new int[] {3}, new int[] {0, 60}, OUTSIDE_ALL);
        bounds("beat", (x, a) -> x.beat(a[0]), new int[] {3}, new int[] {1, 9}, OUTSIDE_ALL);
        bounds("out", (x, a) -> x.out(a[0]), new int[] {90}, new int[] {1, 999}, OUTSIDE_ALL);
        bounds("drift", (x, a) -> x.drift(a[0]), new int[] {5}, new int[] {1, 99}, OUTSIDE_ALL);
    }

    private static void boundsOfWhatIsTried() {
        bounds("today", (x, a) -> x.today(a[0], a[1]), new int[] {90, 0}, new int[] {1, 999, 0, 1}, OUTSIDE_ALL);
        bounds("laggards", (x, a) -> x.laggards(a[0]), new int[] {90}, new int[] {1, 999}, OUTSIDE_ALL);
        bounds("horses", (x, a) -> x.horses(a[0]), new int[] {90}, new int[] {1, 999}, OUTSIDE_ALL);
        bounds("string", (x, a) -> x.string(a[0], a[1]), new int[] {90, 4}, new int[] {1, 999, 1, 99}, OUTSIDE_ALL);
        bounds("turn", (x, a) -> x.turn(a[0]), new int[] {90}, new int[] {1, 999}, OUTSIDE_ALL);
        bounds("plan", (x, a) -> x.plan(a[0], a[1], a[2], a[3]), new int[] {3, 90, 9, 1},
                new int[] {1, 8, 1, 999, 0, 30, 0, 1}, OUTSIDE_ALL);
        bounds("lost", (x, a) -> x.lost(a[0], a[1]), new int[] {9, 90}, new int[] {0, 30, 1, 999}, OUTSIDE_ALL);
        bounds("odds", (x, a) -> x.odds(a[0], a[1], a[2], a[3], a[4]), new int[] {3, 9, 9, 40, 90},
                new int[] {1, 8, 0, 30, 0, 60, 0, 100, 1, 999}, OUTSIDE_ALL);
        bounds("noFall", (x, a) -> x.noFall(a[0], a[1]), new int[] {5, 9}, new int[] {0, 99, 0, 1000}, OUTSIDE_ALL);
    }

    private static void boundsOfRecordsAndImages() {
        bounds("bore", (x, a) -> x.bore(a[0], a[1], a[2], a[3]), new int[] {1, 3, 9, 250},
                new int[] {0, 3, 0, 9, 0, 30, 0, 300}, UNKNOWN_THEN_OUTSIDE);
        bounds("kinds", (x, a) -> x.kinds(a[0]), new int[] {1}, new int[] {0, 3}, UNKNOWN_THEN_OUTSIDE);
        bounds("write", (x, a) -> x.write(a[0], a[1]), new int[] {1, 250}, new int[] {0, 3, 0, 300}, UNKNOWN_THEN_OUTSIDE);
        bounds("seed", (x, a) -> x.seed(a[0]), new int[] {9}, new int[] {0, Integer.MAX_VALUE}, OUTSIDE_ALL);
        bounds("keep", (x, a) -> x.keep(a[0]), new int[] {1}, new int[] {0, 1}, UNKNOWN_THEN_OUTSIDE);
        bounds("goBack", (x, a) -> x.goBack(a[0]), new int[] {1}, new int[] {0, 1}, UNKNOWN_THEN_OUTSIDE);
    }

    /** Number by number: taken at both bounds, refused one beyond them and far beyond; the others are sound. */
    private static void bounds(String name, Call call, int[] sound, int[] leastAndMost, int[] refusals) {
        KIT.says("What is refused changes nothing.");
        for (int i = 0; i < sound.length; i++) {
            long least = leastAndMost[2 * i];
            long most = leastAndMost[2 * i + 1];
            for (long v : new long[] {least, most}) {
                int[] numbers = with(sound, i, (int) v);
                KIT.taken(named(name, numbers), call.on(busy(), numbers));
            }
            for (long v : new long[] {least - 1, most + 1, Integer.MIN_VALUE, Integer.MAX_VALUE, least - 256, most + 65536}) {
                boolean within = v >= least && v <= most;
                if (!within && v <= Integer.MAX_VALUE) {
                    int[] numbers = with(sound, i, (int) v);
                    Twins.refused(KIT, named(name, numbers), RefusedTest::busy, x -> call.on(x, numbers), refusals[i]);
                }
            }
        }
    }

    private static int[] with(int[] sound, int i, int v) {
        int[] numbers = sound.clone();
        numbers[i] = v;
        return numbers;
    }

    private static String named(String name, int[] numbers) {
        return name + Arrays.toString(numbers);
    }

    // ---- the order of the refusals

    private static void unknownWithoutYards() {
        KIT.says("No YARDS.");
        for (Supplier<IceSway> state : BARE) {
            Twins.refused(KIT, "yard", state, x -> x.yard(0, 0), Kit.UNKNOWN);
            Twins.refused(KIT, "grows", state, x -> x.grows(0, 5), Kit.UNKNOWN);
            Twins.refused(KIT, "bore", state, x -> x.bore(0, 1, 1, 1), Kit.UNKNOWN);
            Twins.refused(KIT, "kinds", state, x -> x.kinds(0), Kit.UNKNOWN);
            Twins.refused(KIT, "write", state, x -> x.write(0, 1), Kit.UNKNOWN);
        }
    }

    private static void unknownAheadOfOutside() {
        KIT.says("REFUSALS, of several the first in this order");
        for (int y : new int[] {-1, 4}) {
            Twins.refused(KIT, "yard", RefusedTest::busy, x -> x.yard(y, 3), Kit.UNKNOWN);
            Twins.refused(KIT, "yard", RefusedTest::busy, x -> x.yard(y, -1), Kit.UNKNOWN);
            Twins.refused(KIT, "grows", RefusedTest::busy, x -> x.grows(y, 31), Kit.UNKNOWN);
            Twins.refused(KIT, "grows", RefusedTest::busy, x -> x.grows(y, -1), Kit.UNKNOWN);
            Twins.refused(KIT, "bore, k", RefusedTest::busy, x -> x.bore(y, 10, 1, 1), Kit.UNKNOWN);
            Twins.refused(KIT, "bore, c", RefusedTest::busy, x -> x.bore(y, 1, 31, 1), Kit.UNKNOWN);
            Twins.refused(KIT, "bore, v", RefusedTest::busy, x -> x.bore(y, 1, 1, 301), Kit.UNKNOWN);
            Twins.refused(KIT, "write", RefusedTest::busy, x -> x.write(y, 301), Kit.UNKNOWN);
        }
    }

    private static void unknownAheadOfNot() {
        KIT.says("REFUSALS, of several the first in this order");
        for (int i : new int[] {-1, 2}) {
            Twins.refused(KIT, "goBack(" + i + "), nothing kept", IceSway::new, x -> x.goBack(i), Kit.UNKNOWN);
            Twins.refused(KIT, "keep(" + i + ")", IceSway::new, x -> x.keep(i), Kit.UNKNOWN);
        }
    }

    private static void unknownAheadOfFull() {
        KIT.says("REFUSALS, of several the first in this order");
        Twins.refused(KIT, "bore", RefusedTest::withFullRecords, x -> x.bore(4, 1, 1, 1), Kit.UNKNOWN);
        Twins.refused(KIT, "write", RefusedTest::withFullRecords, x -> x.write(4, 1), Kit.UNKNOWN);
        Twins.refused(KIT, "bore, all three", RefusedTest::withFullRecords, x -> x.bore(-1, 10, 31, 301), Kit.UNKNOWN);
        Twins.refused(KIT, "write, all three", RefusedTest::withFullRecords, x -> x.write(-1, 301), Kit.UNKNOWN);
    }

    private static void outsideAheadOfNot() {
        KIT.says("REFUSALS, of several the first in this order");
        for (int t : new int[] {0, 1000}) {
            Twins.refused(KIT, "out(" + t + ")", RefusedTest::withoutYards, x -> x.out(t), Kit.OUTSIDE);
            Twins.refused(KIT, "plan, t " + t, RefusedTest::withoutYards, x -> x.plan(1, t, 5, 0), Kit.OUTSIDE);
        }
        for (int n : new int[] {0, 9}) {
            Twins.refused(KIT, "plan, n " + n, RefusedTest::withoutYards, x -> x.plan(n, 5, 5, 0), Kit.OUTSIDE);
        }
        for (int c : new int[] {-1, 31}) {
            Twins.refused(KIT, "plan, c " + c, RefusedTest::withoutYards, x -> x.plan(1, 5, c, 0), Kit.OUTSIDE);
        }
        for (int what : new int[] {-1, 2}) {
            Twins.refused(KIT, "plan, what " + what, RefusedTest::withoutYards, x -> x.plan(1, 5, 5, what), Kit.OUTSIDE);
        }
    }

    private static void outsideAheadOfFull() {
        KIT.says("REFUSALS, of several the first in this order");
        Twins.refused(KIT, "feed(-1)", RefusedTest::withFullText, x -> x.feed(-1), Kit.OUTSIDE);
        Twins.refused(KIT, "feed(256)", RefusedTest::withFullText, x -> x.feed(256), Kit.OUTSIDE);
        Twins.refused(KIT, "night, c 31", RefusedTest::withTooManyNights, x -> x.night(31, 1), Kit.OUTSIDE);
        Twins.refused(KIT, "night, c -1", RefusedTest::withTooManyNights, x -> x.night(-1, 1), Kit.OUTSIDE);
        Twins.refused(KIT, "night, n 0", RefusedTest::withTooManyNights, x -> x.night(5, 0), Kit.OUTSIDE);
        Twins.refused(KIT, "night, n 100", RefusedTest::withTooManyNights, x -> x.night(5, 100), Kit.OUTSIDE);
        Twins.refused(KIT, "thaw(-1)", RefusedTest::withTooManyNights, x -> x.thaw(-1), Kit.OUTSIDE);
        Twins.refused(KIT, "thaw(61)", RefusedTest::withTooManyNights, x -> x.thaw(61), Kit.OUTSIDE);
        Twins.refused(KIT, "drift(0)", RefusedTest::withTooManyNights, x -> x.drift(0), Kit.OUTSIDE);
        Twins.refused(KIT, "drift(100)", RefusedTest::withTooManyNights, x -> x.drift(100), Kit.OUTSIDE);
        Twins.refused(KIT, "bore, k", RefusedTest::withFullRecords, x -> x.bore(0, 10, 1, 1), Kit.OUTSIDE);
        Twins.refused(KIT, "bore, c", RefusedTest::withFullRecords, x -> x.bore(0, 1, 31, 1), Kit.OUTSIDE);
        Twins.refused(KIT, "bore, v", RefusedTest::withFullRecords, x -> x.bore(0, 1, 1, 301), Kit.OUTSIDE);
        Twins.refused(KIT, "write, v 301", RefusedTest::withFullRecords, x -> x.write(0, 301), Kit.OUTSIDE);
        Twins.refused(KIT, "write, v -1", RefusedTest::withFullRecords, x -> x.write(0, -1), Kit.OUTSIDE);
    }

    private static void notRefused() {
        KIT.says("OUTSIDE, NOT: no YARDS.");
        for (Supplier<IceSway> state : BARE) {
            for (int t : new int[] {1, 999}) {
                Twins.refused(KIT, "out(" + t + ")", state, x -> x.out(t), Kit.NOT);
                Twins.refused(KIT, "plan(1, " + t + ", 0, 0)", state, x -> x.plan(1, t, 0, 0), Kit.NOT);
                Twins.refused(KIT, "plan(8, " + t + ", 30, 1)", state, x -> x.plan(8, t, 30, 1), Kit.NOT);
            }
        }
        KIT.says("UNKNOWN, NOT: it was not kept.");
        Twins.refused(KIT, "goBack(0)", IceSway::new, x -> x.goBack(0), Kit.NOT);
        Twins.refused(KIT, "goBack(1)", IceSway::new, x -> x.goBack(1), Kit.NOT);
        Twins.refused(KIT, "goBack(0), 1 is kept", RefusedTest::withoutYards, x -> x.goBack(0), Kit.NOT);
        Twins.refused(KIT, "goBack(1), 0 is kept", RefusedTest::withTooManyNights, x -> x.goBack(1), Kit.NOT);
    }

    private static void fullRefused() {
        KIT.says("OUTSIDE, FULL (230).");
        Twins.refused(KIT, "feed(0)", RefusedTest::withFullText, x -> x.feed(0), Kit.FULL);
        Twins.refused(KIT, "feed(255)", RefusedTest::withFullText, x -> x.feed(255), Kit.FULL);
        KIT.says("FULL: NIGHTS are above 9000 as it is called (n may pass that).");
        Twins.refused(KIT, "night(0, 1)", RefusedTest::withTooManyNights, x -> x.night(0, 1), Kit.FULL);
        Twins.refused(KIT, "night(30, 99)", RefusedTest::withTooManyNights, x -> x.night(30, 99), Kit.FULL);
        Twins.refused(KIT, "drift(1)", RefusedTest::withTooManyNights, x -> x.drift(1), Kit.FULL);
        Twins.refused(KIT, "drift(99)", RefusedTest::withTooManyNights, x -> x.drift(99), Kit.FULL);
        KIT.says("FULL: NIGHTS are above 9000.");
        Twins.refused(KIT, "thaw(0)", RefusedTest::withTooManyNights, x -> x.thaw(0), Kit.FULL);
        Twins.refused(KIT, "thaw(60)", RefusedTest::withTooManyNights, x -> x.thaw(60), Kit.FULL);
        KIT.says("UNKNOWN, OUTSIDE, FULL (10).");
        Twins.refused(KIT, "bore", RefusedTest::withFullRecords, x -> x.bore(0, 0, 0, 299), Kit.FULL);
        KIT.says("UNKNOWN, OUTSIDE, FULL (15).");
        Twins.refused(KIT, "write", RefusedTest::withFullRecords, x -> x.write(0, 299), Kit.FULL);
    }

    private static void triedChangesNothing() {
        KIT.says("TRIED from now; nothing changes by it.");
        for (int t : new int[] {1, 30, 999}) {
            Twins.tried(KIT, "today, 0", RefusedTest::busy, x -> x.today(t, 0));
            Twins.tried(KIT, "today, 1", RefusedTest::busy, x -> x.today(t, 1));
            Twins.tried(KIT, "laggards", RefusedTest::busy, x -> x.laggards(t));
            Twins.tried(KIT, "horses", RefusedTest::busy, x -> x.horses(t));
            Twins.tried(KIT, "string", RefusedTest::busy, x -> x.string(t, 2));
            Twins.tried(KIT, "turn", RefusedTest::busy, x -> x.turn(t));
            Twins.tried(KIT, "plan, cost", RefusedTest::busy, x -> x.plan(8, t, 12, 0));
            Twins.tried(KIT, "plan, set", RefusedTest::busy, x -> x.plan(8, t, 12, 1));
            Twins.tried(KIT, "lost", RefusedTest::busy, x -> x.lost(12, t));
            Twins.tried(KIT, "odds", RefusedTest::busy, x -> x.odds(8, 12, 8, 50, t));
        }
        Twins.tried(KIT, "bestBeat", RefusedTest::busy, IceSway::bestBeat);
        Twins.tried(KIT, "noFall", RefusedTest::busy, x -> x.noFall(9, 9));
        Twins.tried(KIT, "kinds", RefusedTest::busy, x -> x.kinds(3));
        Twins.tried(KIT, "judge", RefusedTest::busy, IceSway::judge);
        Twins.tried(KIT, "fault", RefusedTest::busy, IceSway::fault);
        Twins.tried(KIT, "told", RefusedTest::busy, x -> x.told(15));
        Twins.tried(KIT, "yard", RefusedTest::busy, x -> x.yard(2, 2));
        Twins.tried(KIT, "grows", RefusedTest::busy, x -> x.grows(2, 20));
    }

    private static void farBelow() {
        KIT.says("They are far below all that is counted: -1000000001 and on.");
        KIT.due("UNKNOWN", IceSway.UNKNOWN, -1000000001);
        KIT.due("OUTSIDE", IceSway.OUTSIDE, -1000000002);
        KIT.due("NOT", IceSway.NOT, -1000000003);
        KIT.due("FULL", IceSway.FULL, -1000000004);
        KIT.says("NONE is -1.");
        KIT.due("NONE", IceSway.NONE, -1);
    }
}
