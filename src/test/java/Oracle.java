import java.util.ArrayList;
import java.util.HashMap;
import java.util.List;
import java.util.Map;
import java.util.function.IntPredicate;
import java.util.regex.Matcher;
import java.util.regex.Pattern;

/** A second reading of the document, written for plainness and in another style than the class: states are never changed. */
final class Oracle {
    /** A yard; broken is 0 if it is not open. */
    record Yard(int kind, int ice, int broken) {
        int grows(int c) {
            int g = 20 * c / (10 + ice);
            return kind == 1 ? g + g / 2 : kind == 3 ? g / 2 : g;
        }

        Yard shut() {
            return broken == 0 ? this : new Yard(kind == 0 ? 1 : kind, broken / 3, 0);
        }

        Yard night(int c) {
            Yard s = shut();
            return new Yard(s.kind, Math.min(300, s.ice + s.grows(c)), 0);
        }

        Yard thaw(int d) {
            Yard s = shut();
            return new Yard(s.kind, Math.max(0, s.ice - d), 0);
        }

        Yard open() {
            return ice == 0 ? this : new Yard(kind, 0, ice);
        }
    }

    record State(List<Yard> yards, int beat, int nights, long seed) {
        State night(int c) {
            return new State(yards.stream().map(y -> y.night(c)).toList(), beat, nights + 1, seed);
        }

        State thaw(int d) {
            return new State(yards.stream().map(y -> y.thaw(d)).toList(), beat, nights + 1, seed);
        }

        State out(int behind) {
            List<Yard> after = new ArrayList<>(yards);
            for (int i = 0; i < behind; i++) {
                after.set(i, after.get(i).open());
            }
            return new State(List.copyOf(after), beat, nights, seed);
        }

        State withSeed(long s) {
            return new State(yards, beat, nights, s);
        }

        int ice() {
            return yards.stream().mapToInt(Yard::ice).sum();
        }
    }

    private static final int[] UNTOLD = {4, 10, 4, 0, 60, 20, 3, 10, 50};
    private static final int[] LEAST = {1, 0, 2, 0, 1, 0, 0, 0, 0};
    private static final int[] MOST = {12, 20, 9, 20, 999, 99, 20, 99, 999};

    private String text = "";
    private int faultPlace = -1;
    private int[] told = UNTOLD.clone();
    private State now = new State(List.of(), 4, 0, 0);
    private final Map<Integer, State> images = new HashMap<>();
    private final List<int[]> bored = new ArrayList<>();
    private final List<int[]> book = new ArrayList<>();

    // ---- refusals

    private boolean unknown(int y) {
        return y < 0 || y >= now.yards.size();
    }

    /** Triples of a number and its bounds: is one of them out of them? */
    private static boolean outside(int... triples) {
        for (int i = 0; i < triples.length; i += 3) {
            if (triples[i] < triples[i + 1] || triples[i] > triples[i + 2]) {
                return true;
            }
        }
        return false;
    }

    // ---- the cut

    int feed(int letter) {
        if (outside(letter, 0, 255)) {
            return Kit.OUTSIDE;
        }
        if (text.length() == 230) {
            return Kit.FULL;
        }
        text += (char) letter;
        return text.length();
    }

    /** A fault of the text: its number and its place. */
    private static final class Fault extends Exception {
        private static final long serialVersionUID = 1;
        final int number;
        final int place;

        Fault(int number, int place) {
            this.number = number;
            this.place = place;
        }
    }

    private record Token(String sign, int place) { }

    private static List<Token> tokens(String text) {
        List<Token> all = new ArrayList<>();
        Matcher m = Pattern.compile("[0-9]+|[^ ]", Pattern.DOTALL).matcher(text);
        while (m.find()) {
            all.add(new Token(m.group(), m.start()));
        }
        all.add(new Token("end", text.length()));
        return all;
    }

    private static int number(Token t, int least, int most) throws Fault {
        if (!Character.isDigit(t.sign.charAt(0)) || t.sign.charAt(0) > '9') {
            throw new Fault(1, t.place);
        }
        if (t.sign.length() > 3 || outside(Integer.parseInt(t.sign), least, most)) {
            throw new Fault(2, t.place);
        }
        return Integer.parseInt(t.sign);
    }

    private static void parse(String text, List<Yard> yards, int[] numbers) throws Fault {
        List<Token> tokens = tokens(text);
        int at = 0;
        String seen = "";
        while (!tokens.get(at).sign.equals("end")) {
            Token word = tokens.get(at++);
            if (word.sign.length() != 1 || "ybgc".indexOf(word.sign) < 0 || (seen.isEmpty() && !word.sign.equals("y"))) {
                throw new Fault(1, word.place);
            }
            if (seen.contains(word.sign)) {
                throw new Fault(3, word.place);
            }
            seen += word.sign;
            if (word.sign.equals("y")) {
                while (true) {
                    int kind = number(tokens.get(at++), 0, 3);
                    int ice = number(tokens.get(at++), 0, 99);
                    yards.add(new Yard(kind, ice, 0));
                    if (!tokens.get(at).sign.equals(",") || yards.size() == 12) {
                        break;
                    }
                    at++;
                }
            } else {
                int first = word.sign.equals("b") ? 0 : word.sign.equals("g") ? 4 : 6;
                int end = word.sign.equals("b") ? 4 : word.sign.equals("g") ? 6 : 9;
                for (int i = first; i < end; i++) {
                    numbers[i] = number(tokens.get(at++), LEAST[i], MOST[i]);
                }
            }
            Token last = tokens.get(at++);
            if (!last.sign.equals(";")) {
                throw new Fault(1, last.place);
            }
        }
    }

    int cut() {
        String given = text;
        text = "";
        List<Yard> yards = new ArrayList<>();
        int[] numbers = UNTOLD.clone();
        try {
            parse(given, yards, numbers);
        } catch (Fault f) {
            faultPlace = f.place;
            return -10 - f.number;
        }
        faultPlace = -1;
        told = numbers;
        now = new State(List.copyOf(yards), 4, 0, now.seed);
        bored.clear();
        book.clear();
        images.clear();
        return yards.size();
    }

    int fault() {
        return faultPlace;
    }

    int told(int what) {
        if (outside(what, 0, 17)) {
            return Kit.OUTSIDE;
        }
        int open = 0;
        for (int y = 0; y < now.yards.size(); y++) {
            open += now.yards.get(y).broken > 0 ? 1 << y : 0;
        }
        int[] rest = {text.length(), now.nights, now.beat, sway(now.beat, told[3]), force(), open, bored.size(), book.size()};
        return what == 0 ? now.yards.size() : what < 10 ? told[what - 1] : rest[what - 10];
    }

    int yard(int y, int what) {
        if (unknown(y)) {
            return Kit.UNKNOWN;
        }
        Yard yard = now.yards.get(y);
        return what == 0 ? yard.kind : what == 1 ? yard.ice : what == 2 ? yard.broken : Kit.OUTSIDE;
    }

    int grows(int y, int c) {
        return unknown(y) ? Kit.UNKNOWN : outside(c, 0, 30) ? Kit.OUTSIDE : now.yards.get(y).grows(c);
    }

    // ---- what is done

    int night(int c, int n) {
        if (outside(c, 0, 30, n, 1, 99)) {
            return Kit.OUTSIDE;
        }
        if (now.nights > 9000) {
            return Kit.FULL;
        }
        for (int i = 0; i < n; i++) {
            now = now.night(c);
        }
        return now.ice();
    }

    int thaw(int d) {
        if (outside(d, 0, 60)) {
            return Kit.OUTSIDE;
        }
        if (now.nights > 9000) {
            return Kit.FULL;
        }
        now = now.thaw(d);
        return now.ice();
    }

    int beat(int b) {
        if (outside(b, 1, 9)) {
            return Kit.OUTSIDE;
        }
        now = new State(now.yards, b, now.nights, now.seed);
        return force();
    }

    int out(int t) {
        if (outside(t, 1, 999)) {
            return Kit.OUTSIDE;
        }
        if (now.yards.isEmpty()) {
            return Kit.NOT;
        }
        int behind = day(now, force(), t).size();
        now = now.out(behind);
        return behind;
    }

    private int draw(int n) {
        now = now.withSeed((now.seed * 1103515245L + 12345L) % (1L << 31));
        return (int) (now.seed / 65536 % n);
    }

    int drift(int n) {
        if (outside(n, 1, 99)) {
            return Kit.OUTSIDE;
        }
        if (now.nights > 9000) {
            return Kit.FULL;
        }
        for (int i = 0; i < n; i++) {
            boolean thaws = draw(5) == 0;
            int by = draw(thaws ? 40 : 31);
            now = thaws ? now.thaw(by) : now.night(by);
        }
        return now.ice();
    }

    // ---- tried

    private int sway(int beat, int laggards) {
        int men = Math.max(0, told[1] - laggards);
        int apart = Math.abs(beat - told[2]);
        int swing = apart == 0 ? men * 3 : apart == 1 ? men : men / 3;
        return Math.max(0, swing - 2 * laggards);
    }

    private int force() {
        return 4 * told[0] + sway(now.beat, told[3]);
    }

    /** The minutes at which the yards are behind the boat, yard by yard. */
    private List<Integer> day(State s, int force, int t) {
        List<Integer> ends = new ArrayList<>();
        int minute = 0;
        for (Yard y : s.yards) {
            if (y.ice > 2 * force) {
                break;
            }
            int takes = 1;
            if (y.ice > 0) {
                takes = (1 + 10 * y.ice / force) * (y.ice > force ? 2 : 1) + (y.kind == 2 ? told[5] : 0);
            }
            minute += takes;
            if (minute > t) {
                break;
            }
            ends.add(minute);
        }
        return ends;
    }

    private boolean through(State s, int force, int t) {
        return day(s, force, t).size() == s.yards.size();
    }

    private static int first(int from, int to, IntPredicate is) {
        for (int i = from; i <= to; i++) {
            if (is.test(i)) {
                return i;
            }
        }
        return Kit.NONE;
    }

    int today(int t, int what) {
        if (outside(t, 1, 999, what, 0, 1)) {
            return Kit.OUTSIDE;
        }
        List<Integer> ends = day(now, force(), t);
        return what == 0 ? ends.size() : ends.isEmpty() ? 0 : ends.get(ends.size() - 1);
    }

    int bestBeat() {
        int most = 0;
        for (int b = 1; b <= 9; b++) {
            most = Math.max(most, sway(b, told[3]));
        }
        int best = most;
        return first(1, 9, b -> sway(b, told[3]) == best);
    }

    int laggards(int t) {
        if (outside(t, 1, 999)) {
            return Kit.OUTSIDE;
        }
        return first(0, 20, l -> !through(now, 4 * told[0] + sway(now.beat, l), t));
    }

    int horses(int t) {
        if (outside(t, 1, 999)) {
            return Kit.OUTSIDE;
        }
        return first(1, 12, h -> through(now, 4 * h + sway(now.beat, told[3]), t));
    }

    int string(int t, int k) {
        if (outside(t, 1, 999, k, 1, 99)) {
            return Kit.OUTSIDE;
        }
        int behind = day(now, force(), t).size();
        if (now.yards.subList(0, behind).stream().noneMatch(y -> y.ice > 0)) {
            return Kit.NONE;
        }
        int boats = 0;
        for (int minute = k; minute < told[4]; minute += k) {
            boats++;
        }
        return boats;
    }

    int turn(int t) {
        if (outside(t, 1, 999)) {
            return Kit.OUTSIDE;
        }
        List<Integer> ends = day(now, force(), t);
        int best = 0;
        for (int m = 1; m <= ends.size(); m++) {
            int minute = ends.get(m - 1);
            boolean free = true;
            int firstBroken = first(0, m - 1, y -> now.yards.get(y).ice > 0);
            for (int y = m - 1; y >= 0; y--) {
                minute++;
                if (y == firstBroken) {
                    free = minute - ends.get(y) < told[4];
                }
            }
            if (free && minute <= t) {
                best = m;
            }
        }
        return best;
    }

    int plan(int n, int t, int c, int what) {
        if (outside(n, 1, 8, t, 1, 999, c, 0, 30, what, 0, 1)) {
            return Kit.OUTSIDE;
        }
        if (now.yards.isEmpty()) {
            return Kit.NOT;
        }
        int best = Integer.MAX_VALUE;
        int bestSet = 0;
        for (int set = 0; set < 1 << n; set++) {
            int cost = costOf(set, n, t, c);
            if (cost < best) {
                best = cost;
                bestSet = set;
            }
        }
        return what == 0 ? best : bestSet;
    }

    private int costOf(int set, int n, int t, int c) {
        State s = now;
        int coal = told[6];
        int cost = 0;
        for (int day = 0; day < n; day++) {
            if (coal == 0) {
                cost += told[8];
            } else {
                coal--;
            }
            if ((set >> day) % 2 == 1) {
                cost += told[7];
                int behind = day(s, force(), t).size();
                if (behind == s.yards.size()) {
                    coal = told[6];
                }
                s = s.out(behind);
            }
            s = s.night(c);
        }
        return cost;
    }

    int lost(int c, int t) {
        if (outside(c, 0, 30, t, 1, 999)) {
            return Kit.OUTSIDE;
        }
        State s = now;
        for (int day = 0; day <= 60; day++) {
            if (!through(s, force(), t)) {
                return day;
            }
            s = s.night(c);
        }
        return Kit.NONE;
    }

    int odds(int n, int c, int d, int q, int t) {
        if (outside(n, 1, 8, c, 0, 30, d, 0, 60, q, 0, 100, t, 1, 999)) {
            return Kit.OUTSIDE;
        }
        List<State> states = List.of(now);
        List<Long> parts = List.of(1000000000L);
        for (int night = 0; night < n; night++) {
            List<State> nextStates = new ArrayList<>();
            List<Long> nextParts = new ArrayList<>();
            for (int i = 0; i < states.size(); i++) {
                long warm = parts.get(i) * q / 100;
                nextStates.add(states.get(i).thaw(d));
                nextParts.add(warm);
                nextStates.add(states.get(i).night(c));
                nextParts.add(parts.get(i) - warm);
            }
            states = nextStates;
            parts = nextParts;
        }
        long sum = 0;
        for (int i = 0; i < states.size(); i++) {
            sum += through(states.get(i), force(), t) ? parts.get(i) : 0;
        }
        return Math.toIntExact(sum);
    }

    int noFall(int m, int q) {
        if (outside(m, 0, 99, q, 0, 1000)) {
            return Kit.OUTSIDE;
        }
        long odds = 1000000000L;
        for (int minute = 0; minute < m; minute++) {
            for (int horse = 0; horse < told[0]; horse++) {
                odds = odds * (1000 - q) / 1000;
            }
        }
        return Math.toIntExact(odds);
    }

    // ---- what was bored

    int bore(int y, int k, int c, int v) {
        if (unknown(y)) {
            return Kit.UNKNOWN;
        }
        if (outside(k, 0, 9, c, 0, 30, v, 0, 300)) {
            return Kit.OUTSIDE;
        }
        if (bored.size() == 10) {
            return Kit.FULL;
        }
        bored.add(new int[] {y, k, c, v});
        return bored.size();
    }

    int kinds(int y) {
        if (unknown(y)) {
            return Kit.UNKNOWN;
        }
        int set = 0;
        for (int kind = 0; kind < 4; kind++) {
            boolean fits = true;
            for (int[] b : bored) {
                Yard yard = new Yard(kind, now.yards.get(y).ice, now.yards.get(y).broken);
                for (int i = 0; i < b[1]; i++) {
                    yard = yard.night(b[2]);
                }
                fits &= b[0] != y || yard.ice == b[3];
            }
            set += fits ? 1 << kind : 0;
        }
        return set;
    }

    int write(int y, int v) {
        if (unknown(y)) {
            return Kit.UNKNOWN;
        }
        if (outside(v, 0, 300)) {
            return Kit.OUTSIDE;
        }
        if (book.size() == 15) {
            return Kit.FULL;
        }
        book.add(new int[] {y, v});
        return book.size();
    }

    int tear() {
        int both = bored.size() + book.size();
        bored.clear();
        book.clear();
        return both;
    }

    int judge() {
        return first(0, book.size() - 1, i -> now.yards.get(book.get(i)[0]).ice != book.get(i)[1]);
    }

    // ---- draws, images

    int seed(int v) {
        if (v < 0) {
            return Kit.OUTSIDE;
        }
        int before = (int) now.seed;
        now = now.withSeed(v);
        return before;
    }

    int keep(int i) {
        if (outside(i, 0, 1)) {
            return Kit.UNKNOWN;
        }
        images.put(i, now);
        return 1;
    }

    int goBack(int i) {
        if (outside(i, 0, 1)) {
            return Kit.UNKNOWN;
        }
        if (!images.containsKey(i)) {
            return Kit.NOT;
        }
        now = images.get(i);
        return 1;
    }
}
