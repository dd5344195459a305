/**
 * A clock at a gate that goes by all steps anybody takes: an hour is so many steps.
 *
 * The rows that the calls need are made once, in the constructor; no call makes an object.
 */
public final class StepClock {
    public static final int BAD = -1, STATE = -2, FULL = -3, NONE = -9;
    public static final int NO = -1000000;

    private static final int LAST_MINUTE = 240;
    private static final int EVEN_HOUR = 60;
    private static final int FIRST_K = 90, LEAST_K = 10, MOST_K = 999;
    private static final int MOST_PEOPLE = 6, MOST_WAYS = 4, MOST_MARCHES = 4, MOST_WORKS = 6;
    private static final int MOST_BYTES = 400, MOST_DAYS = 20, MOST_IMAGES = 2;
    private static final int MOST_HOUR = 9999, MOST_AT_ONCE = 9999;
    private static final int GO = 0, WAIT = 1;
    private static final int HOURS = 0, FIRE = 1;
    private static final int WAY_PARTS = 4, MARCH_PARTS = 3, WORK_PARTS = 3;
    private static final int SETS_OF_WORKS = 1 << MOST_WORKS;

    private final Text text;
    private final Plan plan;
    private final Plan spare;
    private final Moment present;
    private final Moment trial;
    private final Moment image0;
    private final Moment image1;
    private final Stair daysOfStair;
    private final int[] told;
    private final int[] setEnds;
    private int hanging;
    private boolean kept0;
    private boolean kept1;
    private long traced;

    public StepClock() {
        text = new Text();
        plan = new Plan();
        spare = new Plan();
        present = new Moment();
        trial = new Moment();
        image0 = new Moment();
        image1 = new Moment();
        daysOfStair = new Stair();
        told = new int[LAST_MINUTE + 1];
        setEnds = new int[SETS_OF_WORKS];
    }

    // ---- the day

    public int type(long v, int n) {
        if (!within(n, 1, 8)) {
            return BAD;
        }
        if (text.length + n > MOST_BYTES) {
            return FULL;
        }
        for (int i = n - 1; i >= 0; i--) {
            text.append((int) (v >>> (8 * i)) & 255);
        }
        return text.length;
    }

    public int clear() {
        int had = text.length;
        text.empty();
        return had;
    }

    public int day() {
        int items = text.readPlan(spare);
        if (items < 0) {
            return items;
        }
        plan.become(spare);
        text.empty();
        present.begin(0, 0);
        kept0 = false;
        kept1 = false;
        tellSteps();
        return items;
    }

    public int way(int p, int k, int what) {
        if (!plan.isWay(p, k) || !within(what, 0, WAY_PARTS - 1)) {
            return BAD;
        }
        return plan.wayPart(p, k, what);
    }

    public int march(int m, int what) {
        if (!within(m, 0, plan.marches - 1) || !within(what, 0, MARCH_PARTS - 1)) {
            return BAD;
        }
        return plan.marchPart(m, what);
    }

    public int work(int w, int what) {
        if (!isWork(w) || !within(what, 0, WORK_PARTS - 1)) {
            return BAD;
        }
        return plan.workPart(w, what);
    }

    // ---- minutes

    public int go(int n) {
        if (!within(n, 1, LAST_MINUTE)) {
            return BAD;
        }
        if (present.minute >= LAST_MINUTE) {
            return STATE;
        }
        int before = present.steps;
        for (int i = 0; i < n && present.minute < LAST_MINUTE; i++) {
            present.passMinute(plan);
        }
        return present.steps - before;
    }

    public int sits(int set) {
        int before = present.sitting;
        present.sitting = set & everybody();
        return before;
    }

    public int one(int n) {
        if (!within(n, 1, MOST_AT_ONCE)) {
            return BAD;
        }
        if (present.minute >= LAST_MINUTE) {
            return STATE;
        }
        present.steps += n;
        return hourNow();
    }

    public int now(int what) {
        switch (what) {
            case 0:
                return present.minute;
            case 1:
                return present.steps;
            case 2:
                return hourNow();
            case 3:
                return present.peopleOnWays();
            case 4:
                return present.sitting;
            case 5:
                return present.minute / EVEN_HOUR;
            default:
                return BAD;
        }
    }

    public int person(int p, int what) {
        if (!plan.isPerson(p)) {
            return BAD;
        }
        switch (what) {
            case 0:
                return present.doneBy(p);
            case 1:
                return present.leftFor(p) > 0 ? 1 : 0;
            case 2:
                return present.leftFor(p);
            case 3:
                return present.takenBy(p);
            default:
                return BAD;
        }
    }

    public int anew() {
        int before = present.minute;
        present.begin(0, 0);
        return before;
    }

    // ---- when hours come

    public int comes(int h, int sitting) {
        if (!isHour(h)) {
            return BAD;
        }
        return firstMinute(h, sitting, 0, LAST_MINUTE);
    }

    public int steps(int t) {
        if (!isMinute(t)) {
            return BAD;
        }
        return toldSteps(t);
    }

    public int hangs(int what) {
        switch (what) {
            case 0:
                return hanging;
            case 1:
                return standsBehind();
            default:
                return BAD;
        }
    }

    public int least(int h, int t) {
        if (!isHour(h) || !within(t, 1, LAST_MINUTE)) {
            return BAD;
        }
        if (plan.hourOf(toldSteps(t - 1)) >= h) {
            return NONE;
        }
        return Math.max(0, h * plan.hourSteps - toldSteps(t));
    }

    // ---- works, wages

    public int ends(int w, int m) {
        if (!isWork(w) || !isMinute(m)) {
            return BAD;
        }
        return workEnd(w, m);
    }

    public int oneDay(int what) {
        if (!within(what, 0, 2)) {
            return BAD;
        }
        findSetEnds();
        int best = bestSet();
        switch (what) {
            case 0:
                return worthOf(best);
            case 1:
                return best;
            default:
                return endOfSet(best);
        }
    }

    public int wages(int n, int b, int steps, int w, int t, int what) {
        if (!within(n, 1, 8) || !within(b, 0, 9999) || !within(steps, 1, 999)) {
            return BAD;
        }
        if (!within(w, 0, 99) || !within(t, 0, 99) || !within(what, 0, 3)) {
            return BAD;
        }
        if (what == 3) {
            return bestForAll(n, b, steps, w, t);
        }
        int leastRest = NONE;
        int greatestRest = NONE;
        int rests = 0;
        for (int k = 0; k <= n; k++) {
            if (isRest(k, n, b, steps, w, t)) {
                leastRest = rests == 0 ? k : leastRest;
                greatestRest = k;
                rests++;
            }
        }
        if (what == 2) {
            return rests;
        }
        return what == 0 ? leastRest : greatestRest;
    }

    public int even(int t, int what) {
        if (!isMinute(t)) {
            return BAD;
        }
        switch (what) {
            case 0:
                return t / EVEN_HOUR;
            case 1:
                return plan.hourOf(toldSteps(t));
            case 2:
                return minutesAlike();
            case 3:
                return lastMinuteAlike();
            default:
                return BAD;
        }
    }

    // ---- strikes, the stair

    public int strike(int h, int t, int what) {
        if (!isHour(h) || !within(t, 1, LAST_MINUTE) || !within(what, 0, 1)) {
            return BAD;
        }
        int set = fewestWhoStop(h, t);
        if (set == NONE) {
            return NONE;
        }
        return what == 0 ? set : Integer.bitCount(set);
    }

    public int undone(int set, int h, int t) {
        if (!isHour(h) || !within(t, 1, LAST_MINUTE)) {
            return BAD;
        }
        // More steps at minute 0 never make an hour later, so those that are
        // too few are 0 .. tooFew - 1: tooFew is found bit by bit.
        int tooFew = 0;
        for (int bit = 1 << 13; bit > 0; bit >>= 1) {
            int more = tooFew + bit;
            if (more <= MOST_AT_ONCE + 1 && firstMinute(h, set, more - 1, t) == NONE) {
                tooFew = more;
            }
        }
        return tooFew > MOST_AT_ONCE ? NONE : tooFew;
    }

    public int stair(int steps) {
        if (!within(steps, 0, 9999)) {
            return BAD;
        }
        if (daysOfStair.days >= MOST_DAYS) {
            return FULL;
        }
        daysOfStair.append(steps);
        return daysOfStair.days;
    }

    public int worn(int x, int e, int what) {
        if (!within(x, 0, 199999) || !within(e, 0, 999) || !within(what, 0, 2)) {
            return BAD;
        }
        daysOfStair.findRows(x - e, x + e);
        switch (what) {
            case 0:
                return daysOfStair.rows;
            case 1:
                return daysOfStair.rowFrom;
            default:
                return daysOfStair.rowTo;
        }
    }

    // ---- kinds, images

    public int mark(int kind, int p) {
        if (!plan.isPerson(p)) {
            return NO;
        }
        switch (kind) {
            case 0:
                return personMark(p);
            case 1:
                return walkerMark(p);
            case 2:
                return sitterMark(p);
            case 3:
                return soldierMark(p);
            case 4:
                return strikerMark(p);
            case 5:
                return guestMark(p);
            default:
                return NO;
        }
    }

    public int keep(int image) {
        if (!within(image, 0, MOST_IMAGES - 1)) {
            return BAD;
        }
        if (image == 0) {
            image0.become(present);
            kept0 = true;
        } else {
            image1.become(present);
            kept1 = true;
        }
        return present.minute;
    }

    public int back(int image) {
        if (!within(image, 0, MOST_IMAGES - 1)) {
            return BAD;
        }
        boolean kept = image == 0 ? kept0 : kept1;
        if (!kept) {
            return STATE;
        }
        present.become(image == 0 ? image0 : image1);
        return present.minute;
    }

    public int count(int what) {
        switch (what) {
            case 0:
                return plan.people;
            case 1:
                return plan.marches;
            case 2:
                return plan.works;
            case 3:
                return daysOfStair.days;
            case 4:
                return text.length;
            case 5:
                return plan.hourSteps;
            default:
                return BAD;
        }
    }

    public long trace() {
        return traced;
    }

    // ---- what the calls ask of a number

    private static boolean within(int number, int least, int most) {
        return number >= least && number <= most;
    }

    private static boolean isHour(int h) {
        return within(h, 1, MOST_HOUR);
    }

    private static boolean isMinute(int t) {
        return within(t, 0, LAST_MINUTE);
    }

    private boolean isWork(int w) {
        return within(w, 0, plan.works - 1);
    }

    private static void copyRow(int[] from, int[] to) {
        for (int i = 0; i < from.length && i < to.length; i++) {
            to[i] = from[i];
        }
    }

    // ---- the day as told

    private int everybody() {
        return (1 << plan.people) - 1;
    }

    private int hourNow() {
        return plan.hourOf(present.steps);
    }

    private void tellSteps() {
        trial.begin(0, 0);
        told[0] = 0;
        for (int t = 1; t <= LAST_MINUTE && t < told.length; t++) {
            trial.passMinute(plan);
            told[t] = trial.steps;
        }
        hanging = trial.waitingInVain(plan);
    }

    private int toldSteps(int t) {
        return t >= 0 && t < told.length ? told[t] : 0;
    }

    private int standsBehind() {
        for (int t = LAST_MINUTE; t > 0; t--) {
            if (toldSteps(t) > toldSteps(t - 1)) {
                return t;
            }
        }
        return 0;
    }

    /** The least t up to last, so that the hour behind t minutes is h at least; NONE. */
    private int firstMinute(int h, int set, int atOnce, int last) {
        trial.begin(atOnce, set & everybody());
        for (int t = 0; t < last; t++) {
            if (plan.hourOf(trial.steps) >= h) {
                return t;
            }
            trial.passMinute(plan);
        }
        return plan.hourOf(trial.steps) >= h ? last : NONE;
    }

    /** The least of the smallest sets that keep hour h from coming by t; NONE. */
    private int fewestWhoStop(int h, int t) {
        if (firstMinute(h, everybody(), 0, t) != NONE) {
            return NONE;
        }
        for (int size = 0; size < plan.people; size++) {
            for (int set = 0; set < everybody(); set++) {
                if (Integer.bitCount(set) == size && firstMinute(h, set, 0, t) == NONE) {
                    return set;
                }
            }
        }
        return everybody();
    }

    private boolean isAlike(int t) {
        return t / EVEN_HOUR == plan.hourOf(toldSteps(t));
    }

    private int minutesAlike() {
        int alike = 0;
        for (int t = 0; t <= LAST_MINUTE; t++) {
            if (isAlike(t)) {
                alike++;
            }
        }
        return alike;
    }

    private int lastMinuteAlike() {
        for (int t = LAST_MINUTE; t >= 0; t--) {
            if (isAlike(t)) {
                return t;
            }
        }
        return NONE;
    }

    // ---- works

    private int workEnd(int w, int m) {
        int lasts = plan.workPart(w, 1);
        if (plan.workPart(w, 0) == FIRE) {
            return m + lasts <= LAST_MINUTE ? m + lasts : NONE;
        }
        int due = toldSteps(m) + lasts;
        for (int t = m; t <= LAST_MINUTE; t++) {
            if (toldSteps(t) >= due) {
                return t;
            }
        }
        return NONE;
    }

    private int endOfSet(int set) {
        return set >= 0 && set < setEnds.length ? setEnds[set] : NONE;
    }

    /** When each set of works ends at the earliest: whatever begins sooner never ends later. */
    private void findSetEnds() {
        int sets = Math.min(1 << plan.works, setEnds.length);
        for (int set = 0; set < sets; set++) {
            setEnds[set] = set == 0 ? 0 : earliestEnd(set);
        }
    }

    private int earliestEnd(int set) {
        int earliest = NONE;
        for (int w = 0; w < plan.works; w++) {
            int ahead = (set >> w & 1) == 1 ? endOfSet(set & ~(1 << w)) : NONE;
            int end = ahead == NONE ? NONE : workEnd(w, ahead);
            if (end != NONE && (earliest == NONE || end < earliest)) {
                earliest = end;
            }
        }
        return earliest;
    }

    private int worthOf(int set) {
        int worth = 0;
        for (int w = 0; w < plan.works; w++) {
            if ((set >> w & 1) == 1) {
                worth += plan.workPart(w, 2);
            }
        }
        return worth;
    }

    private int bestSet() {
        int best = 0;
        for (int set = 1; set < 1 << plan.works; set++) {
            if (endOfSet(set) != NONE && worthOf(set) > worthOf(best)) {
                best = set;
            }
        }
        return best;
    }

    // ---- wages

    /** What the clock's hours bring each one when so many steps are taken in all. */
    private int hoursPay(int allSteps, int w) {
        return plan.hourOf(allSteps) * w;
    }

    private boolean isRest(int k, int n, int b, int steps, int w, int t) {
        int pay = hoursPay(b + k * steps, w);
        boolean walkersStay = k == 0 || hoursPay(b + (k - 1) * steps, w) <= pay - t;
        boolean sittersStay = k == n || hoursPay(b + (k + 1) * steps, w) - t <= pay;
        return walkersStay && sittersStay;
    }

    private int bestForAll(int n, int b, int steps, int w, int t) {
        int best = 0;
        int most = n * hoursPay(b, w);
        for (int k = 1; k <= n; k++) {
            int together = n * hoursPay(b + k * steps, w) - k * t;
            if (together > most) {
                most = together;
                best = k;
            }
        }
        return best;
    }

    // ---- kinds: each asks the one above it once

    private int personMark(int p) {
        traced += 1;
        return present.takenBy(p);
    }

    private int walkerMark(int p) {
        traced += 10;
        return personMark(p) + present.leftFor(p);
    }

    private int sitterMark(int p) {
        traced += 100;
        return personMark(p) - hourNow();
    }

    private int soldierMark(int p) {
        traced += 1000;
        return walkerMark(p) * 2;
    }

    private int strikerMark(int p) {
        traced += 10000;
        return sitterMark(p) + present.minute;
    }

    private int guestMark(int p) {
        traced += 100000;
        return personMark(p) + present.minute / EVEN_HOUR;
    }

    /** The bytes that were typed, and the reader of them: token by token, one token at a time. */
    private static final class Text {
        private static final int END = 0, SEMICOLON = 1, NUMBER = 2, WORD = 3, WRONG = 4;
        private static final int BLANK = 32;
        private static final int MOST_NUMBER = 999;

        private final int[] bytes;
        private int length;
        private boolean clockTold;
        private int token;
        private int number;
        private int start;
        private int behind;

        Text() {
            bytes = new int[MOST_BYTES];
        }

        void append(int value) {
            if (length >= 0 && length < bytes.length) {
                bytes[length] = value;
                length++;
            }
        }

        void empty() {
            length = 0;
        }

        /**
         * How many items the text has; -10 less the fault's place, if it has one. The fault is
         * always the token that the reader stands at, so the parts only say that it can't stand.
         */
        int readPlan(Plan plan) {
            plan.empty();
            clockTold = false;
            behind = 0;
            nextToken();
            for (int items = 0; items <= MOST_BYTES; items++) {
                if (token == END) {
                    return items;
                }
                if (!readItem(plan) || token != SEMICOLON) {
                    break;
                }
                nextToken();
            }
            return -10 - start;
        }

        private boolean readItem(Plan plan) {
            if (isWord("clock")) {
                return readClock(plan);
            }
            if (isWord("person")) {
                return readPerson(plan);
            }
            if (isWord("go")) {
                return readWay(plan, GO, 0, LAST_MINUTE - 1);
            }
            if (isWord("wait")) {
                return readWay(plan, WAIT, 1, 99);
            }
            if (isWord("march")) {
                return readMarch(plan);
            }
            return isWord("work") && readWork(plan);
        }

        private boolean readClock(Plan plan) {
            if (clockTold) {
                return false;
            }
            clockTold = true;
            nextToken();
            int k = readNumber(LEAST_K, MOST_K);
            if (k < 0) {
                return false;
            }
            plan.hourSteps = k;
            return true;
        }

        private boolean readPerson(Plan plan) {
            if (!plan.canAddPerson()) {
                return false;
            }
            plan.addPerson();
            nextToken();
            return true;
        }

        private boolean readWay(Plan plan, int kind, int least, int most) {
            if (!plan.canAddWay()) {
                return false;
            }
            nextToken();
            int from = readNumber(least, most);
            int steps = from < 0 ? NONE : readNumber(1, 999);
            int pace = steps < 0 ? NONE : readNumber(1, 99);
            if (pace < 0) {
                return false;
            }
            plan.addWay(kind, from, steps, pace);
            return true;
        }

        private boolean readMarch(Plan plan) {
            if (!plan.canAddMarch()) {
                return false;
            }
            nextToken();
            int from = readNumber(0, LAST_MINUTE - 1);
            int minutes = from < 0 ? NONE : readNumber(1, LAST_MINUTE);
            int pace = minutes < 0 ? NONE : readNumber(1, 999);
            if (pace < 0) {
                return false;
            }
            plan.addMarch(from, minutes, pace);
            return true;
        }

        private boolean readWork(Plan plan) {
            if (!plan.canAddWork()) {
                return false;
            }
            nextToken();
            boolean byFire = isWord("fire");
            if (!byFire && !isWord("hours")) {
                return false;
            }
            nextToken();
            int lasts = readNumber(1, byFire ? LAST_MINUTE : 999);
            int worth = lasts < 0 ? NONE : readNumber(0, 99);
            if (worth < 0) {
                return false;
            }
            plan.addWork(byFire ? FIRE : HOURS, lasts, worth);
            return true;
        }

        /** The number at this place, which is then behind; below 0, if none can stand there. */
        private int readNumber(int least, int most) {
            if (token != NUMBER || number < least || number > most) {
                return NONE;
            }
            int value = number;
            nextToken();
            return value;
        }

        private void nextToken() {
            start = behind;
            while (start < length && byteAt(start) == BLANK) {
                start++;
            }
            behind = start;
            int first = byteAt(start);
            if (first == NONE) {
                token = END;
            } else if (isLetter(first)) {
                while (behind < length && isLetter(byteAt(behind))) {
                    behind++;
                }
                token = WORD;
            } else if (isDigit(first)) {
                number = 0;
                while (behind < length && isDigit(byteAt(behind))) {
                    // Beyond the greatest number it grows no more, so that it can't wrap around.
                    number = number > MOST_NUMBER ? number : number * 10 + byteAt(behind) - '0';
                    behind++;
                }
                boolean zeroAhead = first == '0' && behind - start > 1;
                token = zeroAhead || number > MOST_NUMBER ? WRONG : NUMBER;
            } else {
                behind++;
                token = first == ';' ? SEMICOLON : WRONG;
            }
        }

        private boolean isWord(String word) {
            if (token != WORD || behind - start != word.length()) {
                return false;
            }
            for (int i = 0; i < word.length(); i++) {
                if (byteAt(start + i) != word.charAt(i)) {
                    return false;
                }
            }
            return true;
        }

        private int byteAt(int place) {
            return place >= 0 && place < length && place < bytes.length ? bytes[place] : NONE;
        }

        private static boolean isLetter(int value) {
            return value >= 'a' && value <= 'z';
        }

        private static boolean isDigit(int value) {
            return value >= '0' && value <= '9';
        }
    }

    /** What the day's text tells: the clock, the people with their ways, the marches, the works. */
    private static final class Plan {
        private final int[] wayCounts;
        private final int[] wayParts;
        private final int[] marchParts;
        private final int[] workParts;
        private int hourSteps;
        private int people;
        private int marches;
        private int works;

        Plan() {
            wayCounts = new int[MOST_PEOPLE];
            wayParts = new int[MOST_PEOPLE * MOST_WAYS * WAY_PARTS];
            marchParts = new int[MOST_MARCHES * MARCH_PARTS];
            workParts = new int[MOST_WORKS * WORK_PARTS];
            hourSteps = FIRST_K;
        }

        void empty() {
            hourSteps = FIRST_K;
            people = 0;
            marches = 0;
            works = 0;
        }

        void become(Plan other) {
            hourSteps = other.hourSteps;
            people = other.people;
            marches = other.marches;
            works = other.works;
            copyRow(other.wayCounts, wayCounts);
            copyRow(other.wayParts, wayParts);
            copyRow(other.marchParts, marchParts);
            copyRow(other.workParts, workParts);
        }

        int hourOf(int steps) {
            return hourSteps > 0 ? steps / hourSteps : 0;
        }

        boolean isPerson(int p) {
            return p >= 0 && p < people && p < wayCounts.length;
        }

        boolean isWay(int p, int k) {
            return p >= 0 && p < people && p < wayCounts.length && k >= 0 && k < wayCounts[p];
        }

        int wayPart(int p, int k, int part) {
            int place = (p * MOST_WAYS + k) * WAY_PARTS + part;
            return place >= 0 && place < wayParts.length ? wayParts[place] : 0;
        }

        int marchPart(int m, int part) {
            int place = m * MARCH_PARTS + part;
            return place >= 0 && place < marchParts.length ? marchParts[place] : 0;
        }

        int workPart(int w, int part) {
            int place = w * WORK_PARTS + part;
            return place >= 0 && place < workParts.length ? workParts[place] : 0;
        }

        boolean canAddPerson() {
            return people >= 0 && people < wayCounts.length;
        }

        void addPerson() {
            if (canAddPerson()) {
                wayCounts[people] = 0;
                people++;
            }
        }

        boolean canAddWay() {
            return isPerson(people - 1) && wayCounts[people - 1] < MOST_WAYS;
        }

        void addWay(int kind, int from, int steps, int pace) {
            if (!canAddWay()) {
                return;
            }
            int p = people - 1;
            int place = (p * MOST_WAYS + wayCounts[p]) * WAY_PARTS;
            if (place >= 0 && place + 3 < wayParts.length) {
                wayParts[place] = kind;
                wayParts[place + 1] = from;
                wayParts[place + 2] = steps;
                wayParts[place + 3] = pace;
                wayCounts[p]++;
            }
        }

        boolean canAddMarch() {
            return marches < MOST_MARCHES;
        }

        void addMarch(int from, int minutes, int pace) {
            int place = marches * MARCH_PARTS;
            if (place >= 0 && place + 2 < marchParts.length) {
                marchParts[place] = from;
                marchParts[place + 1] = minutes;
                marchParts[place + 2] = pace;
                marches++;
            }
        }

        boolean canAddWork() {
            return works < MOST_WORKS;
        }

        void addWork(int kind, int lasts, int worth) {
            int place = works * WORK_PARTS;
            if (place >= 0 && place + 2 < workParts.length) {
                workParts[place] = kind;
                workParts[place + 1] = lasts;
                workParts[place + 2] = worth;
                works++;
            }
        }

        int marchSteps(int minute) {
            int all = 0;
            for (int m = 0; m < marches; m++) {
                int from = marchPart(m, 0);
                if (minute >= from && minute < from + marchPart(m, 1)) {
                    all += marchPart(m, 2);
                }
            }
            return all;
        }
    }

    /** How far the minutes have gone by: the clock, and each one's way. */
    private static final class Moment {
        private final int[] done;
        private final int[] left;
        private final int[] taken;
        private int minute;
        private int steps;
        private int sitting;

        Moment() {
            done = new int[MOST_PEOPLE];
            left = new int[MOST_PEOPLE];
            taken = new int[MOST_PEOPLE];
        }

        void begin(int atOnce, int set) {
            minute = 0;
            steps = atOnce;
            sitting = set;
            for (int p = 0; p < MOST_PEOPLE; p++) {
                done[p] = 0;
                left[p] = 0;
                taken[p] = 0;
            }
        }

        void become(Moment other) {
            minute = other.minute;
            steps = other.steps;
            sitting = other.sitting;
            copyRow(other.done, done);
            copyRow(other.left, left);
            copyRow(other.taken, taken);
        }

        int doneBy(int p) {
            return p >= 0 && p < done.length ? done[p] : 0;
        }

        int leftFor(int p) {
            return p >= 0 && p < left.length ? left[p] : 0;
        }

        int takenBy(int p) {
            return p >= 0 && p < taken.length ? taken[p] : 0;
        }

        int peopleOnWays() {
            int many = 0;
            for (int p = 0; p < MOST_PEOPLE; p++) {
                if (left[p] > 0) {
                    many++;
                }
            }
            return many;
        }

        void passMinute(Plan plan) {
            // All go by the hour as the minute begins, whatever the others take in it.
            int hour = plan.hourOf(steps);
            int more = plan.marchSteps(minute);
            for (int p = 0; p < plan.people && p < MOST_PEOPLE; p++) {
                if ((sitting >> p & 1) == 0) {
                    more += walk(plan, p, hour);
                }
            }
            steps += more;
            minute++;
        }

        private int walk(Plan plan, int p, int hour) {
            if (left[p] == 0 && maySetOut(plan, p, hour)) {
                left[p] = plan.wayPart(p, done[p], 2);
            }
            if (left[p] == 0) {
                return 0;
            }
            int takes = Math.min(plan.wayPart(p, done[p], 3), left[p]);
            left[p] -= takes;
            taken[p] += takes;
            if (left[p] == 0) {
                done[p]++;
            }
            return takes;
        }

        private boolean maySetOut(Plan plan, int p, int hour) {
            if (!plan.isWay(p, done[p])) {
                return false;
            }
            int reached = plan.wayPart(p, done[p], 0) == WAIT ? hour : minute;
            return reached >= plan.wayPart(p, done[p], 1);
        }

        /** The people, as bits, whose next way waits for an hour that is not there. */
        int waitingInVain(Plan plan) {
            int hour = plan.hourOf(steps);
            int set = 0;
            for (int p = 0; p < plan.people && p < MOST_PEOPLE; p++) {
                boolean waits = left[p] == 0 && plan.isWay(p, done[p])
                        && plan.wayPart(p, done[p], 0) == WAIT;
                if (waits && hour < plan.wayPart(p, done[p], 1)) {
                    set |= 1 << p;
                }
            }
            return set;
        }
    }

    /** The steps worn off a stair, day by day. */
    private static final class Stair {
        private final int[] wear;
        private int days;
        private int rows;
        private int rowFrom;
        private int rowTo;

        Stair() {
            wear = new int[MOST_DAYS];
        }

        void append(int steps) {
            if (days >= 0 && days < wear.length) {
                wear[days] = steps;
                days++;
            }
        }

        /** Finds the rows of days whose steps, added, are least to most. */
        void findRows(int least, int most) {
            rows = 0;
            rowFrom = NONE;
            rowTo = NONE;
            for (int from = 0; from < days; from++) {
                int added = 0;
                for (int to = from; to < days && to < wear.length; to++) {
                    added += wear[to];
                    if (added >= least && added <= most) {
                        takeRow(from, to);
                    }
                }
            }
        }

        private void takeRow(int from, int to) {
            if (rows == 0) {
                rowFrom = from;
                rowTo = to;
            }
            rows++;
        }
    }
}
