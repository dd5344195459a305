import java.util.ArrayList;
import java.util.List;

/**
 * The document told once more, by other means than the program's: texts by a list of tokens and
 * patterns, people by how far they have come in all, and the rest by trying everything.
 */
final class Model {
    static final int BAD = -1, STATE = -2, FULL = -3, NONE = -9, NO = -1000000;

    /** A person's way: {kind, from, steps, pace}. */
    List<List<int[]>> people = new ArrayList<>();
    List<int[]> marches = new ArrayList<>();
    List<int[]> works = new ArrayList<>();
    int k = 90;
    StringBuilder text = new StringBuilder();
    List<Integer> stair = new ArrayList<>();
    long trace = 0;
    Now now = new Now(0);
    Now[] images = new Now[2];

    /** Where everybody is: each one by the steps that were taken in all. */
    static final class Now {
        int minute = 0;
        int steps = 0;
        int[] far;
        int sitting = 0;

        Now(int people) {
            far = new int[people];
        }

        Now copy() {
            Now other = new Now(far.length);
            other.minute = minute;
            other.steps = steps;
            other.sitting = sitting;
            other.far = far.clone();
            return other;
        }
    }

    // ---- the day

    private record Token(int place, String word) {
    }

    private static List<Token> tokens(String text) {
        List<Token> all = new ArrayList<>();
        java.util.regex.Matcher m = java.util.regex.Pattern.compile("[a-z]+|[0-9]+|[^ ]", java.util.regex.Pattern.DOTALL)
                .matcher(text);
        while (m.find()) {
            all.add(new Token(m.start(), m.group()));
        }
        all.add(new Token(text.length(), ""));
        return all;
    }

    private static final String[] PATTERNS = {
        "clock 10-999 ;", "person ;", "go 0-239 1-999 1-99 ;", "wait 1-99 1-999 1-99 ;",
        "march 0-239 1-240 1-999 ;", "work hours 1-999 0-99 ;", "work fire 1-240 0-99 ;",
    };

    private static boolean fits(String pattern, String word) {
        int dash = pattern.indexOf('-');
        if (dash < 0) {
            return pattern.equals(word);
        }
        return word.matches("0|[1-9][0-9]{0,2}") && Integer.parseInt(word) >= Integer.parseInt(pattern.substring(0, dash))
                && Integer.parseInt(word) <= Integer.parseInt(pattern.substring(dash + 1));
    }

    private static boolean room(String word, Model to, boolean clockTold) {
        switch (word) {
            case "clock":
                return !clockTold;
            case "person":
                return to.people.size() < 6;
            case "go":
            case "wait":
                return !to.people.isEmpty() && to.people.get(to.people.size() - 1).size() < 4;
            case "march":
                return to.marches.size() < 4;
            default:
                return to.works.size() < 6;
        }
    }

    int day() {
        Model read = new Model();
        boolean clockTold = false;
        List<Token> all = tokens(text.toString());
        int at = 0;
        int items = 0;
        while (!all.get(at).word.isEmpty()) {
            if (!room(all.get(at).word, read, clockTold)) {
                return -10 - all.get(at).place;
            }
            int furthest = 0;
            String whole = null;
            for (String pattern : PATTERNS) {
                String[] parts = pattern.split(" ");
                int i = 0;
                while (i < parts.length && fits(parts[i], all.get(at + i).word)) {
                    i++;
                }
                furthest = Math.max(furthest, i);
                whole = i == parts.length ? pattern : whole;
            }
            if (whole == null) {
                return -10 - all.get(at + furthest).place;
            }
            read.add(all.subList(at, at + furthest));
            clockTold |= whole.startsWith("clock");
            at += furthest;
            items++;
        }
        people = read.people;
        marches = read.marches;
        works = read.works;
        k = read.k;
        text.setLength(0);
        now = new Now(people.size());
        images = new Now[2];
        return items;
    }

    private void add(List<Token> item) {
        int[] numbers = item.stream().filter(t -> t.word.matches("[0-9]+")).mapToInt(t -> Integer.parseInt(t.word))
                .toArray();
        switch (item.get(0).word) {
            case "clock":
                k = numbers[0];
                break;
            case "person":
                people.add(new ArrayList<>());
                break;
            case "march":
                marches.add(numbers);
                break;
            case "work":
                works.add(new int[] {item.get(1).word.equals("fire") ? 1 : 0, numbers[0], numbers[1]});
                break;
            default:
                int kind = item.get(0).word.equals("wait") ? 1 : 0;
                people.get(people.size() - 1).add(new int[] {kind, numbers[0], numbers[1], numbers[2]});
        }
    }

    int type(long v, int n) {
        if (n < 1 || n > 8) {
            return BAD;
        }
        if (text.length() + n > 400) {
            return FULL;
        }
        for (int i = 8 - n; i < 8; i++) {
            text.append((char) (java.nio.ByteBuffer.allocate(8).putLong(v).get(i) & 255));
        }
        return text.length();
    }

    int part(List<int[]> rows, int i, int what) {
        return i < 0 || i >= rows.size() || what < 0 || what >= rows.get(i).length ? BAD : rows.get(i)[what];
    }

    int way(int p, int way, int what) {
        return p < 0 || p >= people.size() ? BAD : part(people.get(p), way, what);
    }

    // ---- minutes

    /** {ways done, steps left of the way that one is on}. */
    int[] whereabouts(int p, int far) {
        int done = 0;
        int behind = 0;
        for (int[] way : people.get(p)) {
            if (far < behind + way[2]) {
                break;
            }
            behind += way[2];
            done++;
        }
        return new int[] {done, far == behind ? 0 : behind + people.get(p).get(done)[2] - far};
    }

    void minute(Now n) {
        int hour = n.steps / k;
        for (int p = 0; p < people.size(); p++) {
            int[] where = whereabouts(p, n.far[p]);
            if ((n.sitting & 1 << p) != 0 || where[0] == people.get(p).size()) {
                continue;
            }
            int[] way = people.get(p).get(where[0]);
            boolean walks = where[1] > 0 || (way[0] == 0 ? n.minute : hour) >= way[1];
            int takes = walks ? Math.min(way[3], where[1] > 0 ? where[1] : way[2]) : 0;
            n.far[p] += takes;
            n.steps += takes;
        }
        for (int[] march : marches) {
            if (n.minute - march[0] >= 0 && n.minute - march[0] <= march[1] - 1) {
                n.steps += march[2];
            }
        }
        n.minute++;
    }

    int go(int n) {
        if (n < 1 || n > 240) {
            return BAD;
        }
        if (now.minute == 240) {
            return STATE;
        }
        int before = now.steps;
        for (int end = Math.min(240, now.minute + n); now.minute < end;) {
            minute(now);
        }
        return now.steps - before;
    }

    int sits(int set) {
        int was = now.sitting;
        now.sitting = set & (1 << people.size()) - 1;
        return was;
    }

    int one(int n) {
        if (n < 1 || n > 9999) {
            return BAD;
        }
        if (now.minute == 240) {
            return STATE;
        }
        now.steps += n;
        return now.steps / k;
    }

    int now(int what) {
        int on = 0;
        for (int p = 0; p < people.size(); p++) {
            on += person(p, 1);
        }
        int[] all = {now.minute, now.steps, now.steps / k, on, now.sitting, now.minute / 60};
        return what < 0 || what > 5 ? BAD : all[what];
    }

    int person(int p, int what) {
        if (p < 0 || p >= people.size() || what < 0 || what > 3) {
            return BAD;
        }
        int[] where = whereabouts(p, now.far[p]);
        return new int[] {where[0], where[1] > 0 ? 1 : 0, where[1], now.far[p]}[what];
    }

    int anew() {
        int was = now.minute;
        now = new Now(people.size());
        return was;
    }

    // ---- when hours come

    /** Steps behind each of 240 minutes. */
    int[] told(int set, int atOnce) {
        Now n = new Now(people.size());
        n.sitting = set;
        n.steps = atOnce;
        int[] all = new int[241];
        for (int t = 0; t <= 240; t++) {
            all[t] = n.steps;
            minute(n);
        }
        return all;
    }

    private static boolean in(int x, int least, int most) {
        return least <= x && x <= most;
    }

    private int firstOf(int[] told, int h) {
        for (int t = 0; t <= 240; t++) {
            if (told[t] / k >= h) {
                return t;
            }
        }
        return NONE;
    }

    int comes(int h, int set) {
        return in(h, 1, 9999) ? firstOf(told(set, 0), h) : BAD;
    }

    int steps(int t) {
        return in(t, 0, 240) ? told(0, 0)[t] : BAD;
    }

    int hangs(int what) {
        Now n = new Now(people.size());
        int last = 0;
        while (n.minute < 240) {
            int before = n.steps;
            minute(n);
            last = n.steps > before ? n.minute : last;
        }
        int set = 0;
        for (int p = 0; p < people.size(); p++) {
            int[] where = whereabouts(p, n.far[p]);
            if (where[1] == 0 && where[0] < people.get(p).size()) {
                int[] way = people.get(p).get(where[0]);
                set += way[0] == 1 && way[1] > n.steps / k ? 1 << p : 0;
            }
        }
        return what == 0 ? set : what == 1 ? last : BAD;
    }

    int least(int h, int t) {
        if (!in(h, 1, 9999) || !in(t, 1, 240)) {
            return BAD;
        }
        int[] told = told(0, 0);
        return told[t - 1] / k >= h ? NONE : told[t] / k >= h ? 0 : h * k - told[t];
    }

    // ---- works, wages

    private int end(int[] told, int w, int m) {
        int[] work = works.get(w);
        for (int t = m; t <= 240; t++) {
            if (work[0] == 1 ? t - m == work[1] : told[t] - told[m] >= work[1]) {
                return t;
            }
        }
        return NONE;
    }

    int ends(int w, int m) {
        return in(w, 0, works.size() - 1) && in(m, 0, 240) ? end(told(0, 0), w, m) : BAD;
    }

    private void orders(int[] told, int set, int at, int[] earliest) {
        earliest[set] = Math.min(earliest[set], at);
        for (int w = 0; w < works.size(); w++) {
            if ((set & 1 << w) == 0 && end(told, w, at) != NONE) {
                orders(told, set | 1 << w, end(told, w, at), earliest);
            }
        }
    }

    int oneDay(int what) {
        if (!in(what, 0, 2)) {
            return BAD;
        }
        int[] earliest = new int[64];
        java.util.Arrays.fill(earliest, 999);
        orders(told(0, 0), 0, 0, earliest);
        int most = -1;
        int best = -1;
        for (int set = 0; set < 64; set++) {
            int worth = 0;
            for (int w = 0; w < works.size(); w++) {
                worth += (set & 1 << w) == 0 ? 0 : works.get(w)[2];
            }
            if (earliest[set] <= 240 && worth > most) {
                most = worth;
                best = set;
            }
        }
        return new int[] {most, best, earliest[best]}[what];
    }

    /** What person i of n has, when those of a set walk. */
    private int has(int set, int i, int b, int steps, int w, int t) {
        return (b + Integer.bitCount(set) * steps) / k * w - ((set & 1 << i) == 0 ? 0 : t);
    }

    int wages(int n, int b, int steps, int w, int t, int what) {
        if (!in(n, 1, 8) || !in(b, 0, 9999) || !in(steps, 1, 999) || !in(w, 0, 99) || !in(t, 0, 99) || !in(what, 0, 3)) {
            return BAD;
        }
        List<Integer> rests = new ArrayList<>();
        int best = 0;
        int most = Integer.MIN_VALUE;
        for (int k = 0; k <= n; k++) {
            int set = (1 << k) - 1;
            boolean rest = true;
            int sum = 0;
            for (int i = 0; i < n; i++) {
                sum += has(set, i, b, steps, w, t);
                rest &= has(set ^ 1 << i, i, b, steps, w, t) <= has(set, i, b, steps, w, t);
            }
            if (rest) {
                rests.add(k);
            }
            if (sum > most) {
                most = sum;
                best = k;
            }
        }
        if (what >= 2) {
            return what == 2 ? rests.size() : best;
        }
        return rests.isEmpty() ? NONE : rests.get(what == 0 ? 0 : rests.size() - 1);
    }

    int even(int t, int what) {
        if (!in(t, 0, 240) || !in(what, 0, 3)) {
            return BAD;
        }
        int[] told = told(0, 0);
        int same = 0;
        int last = NONE;
        for (int m = 0; m <= 240; m++) {
            if (m / 60 == told[m] / k) {
                same++;
                last = m;
            }
        }
        return new int[] {t / 60, told[t] / k, same, last}[what];
    }

    // ---- strikes, the stair

    int strike(int h, int t, int what) {
        if (!in(h, 1, 9999) || !in(t, 1, 240) || !in(what, 0, 1)) {
            return BAD;
        }
        int best = NONE;
        for (int set = 0; set < 1 << people.size(); set++) {
            boolean stops = told(set, 0)[t] / k < h;
            if (stops && (best == NONE || Integer.bitCount(set) < Integer.bitCount(best))) {
                best = set;
            }
        }
        return best == NONE || what == 0 ? best : Integer.bitCount(best);
    }

    /** Tries every number of steps that could do, from 0 on. */
    int undone(int set, int h, int t) {
        if (!in(h, 1, 9999) || !in(t, 1, 240)) {
            return BAD;
        }
        int without = told(set, 0)[t];
        int everything = without;
        for (int p = 0; p < people.size(); p++) {
            for (int[] way : people.get(p)) {
                everything += way[2];
            }
        }
        for (int n = Math.max(0, h * k - everything); n <= 9999; n++) {
            if (told(set, n)[t] / k >= h) {
                return n;
            }
        }
        return NONE;
    }

    int stair(int steps) {
        if (!in(steps, 0, 9999)) {
            return BAD;
        }
        if (stair.size() == 20) {
            return FULL;
        }
        stair.add(steps);
        return stair.size();
    }

    int worn(int x, int e, int what) {
        if (!in(x, 0, 199999) || !in(e, 0, 999) || !in(what, 0, 2)) {
            return BAD;
        }
        List<int[]> rows = new ArrayList<>();
        for (int from = 0; from < stair.size(); from++) {
            for (int to = from; to < stair.size(); to++) {
                int sum = stair.subList(from, to + 1).stream().mapToInt(i -> i).sum();
                if (Math.abs(sum - x) <= e) {
                    rows.add(new int[] {from, to});
                }
            }
        }
        return what == 0 ? rows.size() : rows.isEmpty() ? NONE : rows.get(0)[what - 1];
    }

    // ---- kinds, images

    int mark(int kind, int p) {
        if (!in(kind, 0, 5) || !in(p, 0, people.size() - 1)) {
            return NO;
        }
        int taken = person(p, 3);
        int walker = taken + person(p, 2);
        int sitter = taken - now.steps / k;
        trace += new int[] {1, 11, 101, 1011, 10101, 100001}[kind];
        return new int[] {taken, walker, sitter, 2 * walker, sitter + now.minute, taken + now.minute / 60}[kind];
    }

    int keep(int image) {
        if (!in(image, 0, 1)) {
            return BAD;
        }
        images[image] = now.copy();
        return now.minute;
    }

    int back(int image) {
        if (!in(image, 0, 1)) {
            return BAD;
        }
        if (images[image] == null) {
            return STATE;
        }
        now = images[image].copy();
        return now.minute;
    }

    int count(int what) {
        int[] all = {people.size(), marches.size(), works.size(), stair.size(), text.length(), k};
        return in(what, 0, 5) ? all[what] : BAD;
    }
}
