/**
 * Works along a line, planned in place and time.
 *
 * Inside, a start is mostly held as the number of working days before it: all works then go without gaps,
 * and a later start makes every arrival later, so that most rules come down to one window of starts.
 */
public final class PlaceTimePlans {
    public static final int BAD = -1;

    private static final int MAX_CREWS = 4;
    private static final int KINDS = 4;
    private static final int MAX_WORKS = 6;
    private static final int MAX_BARS = 8;
    private static final int MAX_MANY = 6;
    private static final int FIRST_MANY = 4;
    private static final int MAX_GAP = 30;
    private static final int LAST_PLACE = 200;
    private static final int TOP_SPEED = 50;
    private static final int LEARNED_PLACES = 10000;
    private static final int LEARNED_DAYS = 1000;
    private static final int REST_DAYS = 200;
    private static final int STARTS = 100;
    private static final int LAST_DAY = 999;
    private static final int MAX_LATE = 100;
    private static final int MAX_TRIES = 20000;
    private static final int MAX_DRAWS = 50;
    private static final int MAX_CHANCE = 90;
    private static final int WEATHER_DAYS = 400;
    private static final int WEATHER_FACTOR = 1103515245;
    private static final int WEATHER_STEP = 12345;
    private static final int LOWEST_31_BITS = 0x7fffffff;
    private static final int WEATHER_CUT = 65536;
    private static final int PERCENT = 100;
    private static final int FORWARD = 0;
    private static final int BACKWARD = 1;
    private static final int WAYS = 2;
    private static final int NO_GAP = -1;

    private final Line line;
    private final Rules rules;
    private final Placing plan;
    private final Search search;
    private final Window room;
    private final Weather weather;
    private final boolean[] movedWorks;
    private boolean planAtHand;
    private int planEnd;
    private boolean lastProved;
    private int lastTried;

    public PlaceTimePlans() {
        line = new Line();
        rules = new Rules(line);
        plan = new Placing();
        search = new Search(line, rules, plan);
        room = new Window();
        weather = new Weather(line, plan);
        movedWorks = new boolean[MAX_WORKS];
    }

    public int crew(int kind) {
        if (!isKind(kind) || line.crewCount >= MAX_CREWS) {
            return BAD;
        }
        int added = line.addCrew(kind);
        forgetPlan();
        return added;
    }

    public int work(int crew, int from, int to, int speed, boolean both) {
        boolean known = crew >= 0 && crew < line.crewCount;
        boolean along = 0 <= from && from < to && to <= LAST_PLACE;
        if (!known || !along || !isWithin(speed, 1, TOP_SPEED) || line.workCount >= MAX_WORKS) {
            return BAD;
        }
        int added = line.addWork(crew, from, to, speed, both);
        forgetPlan();
        return added;
    }

    public boolean after(int a, int b, int days) {
        if (!isWork(a) || !isWork(b) || a == b || !isWithin(days, 0, MAX_GAP)) {
            return false;
        }
        line.setGap(a, b, days);
        forgetPlan();
        return true;
    }

    public boolean season(int work, int first, int last) {
        if (!isWork(work) || first < 0 || last < first || last > LAST_DAY) {
            return false;
        }
        Work told = line.works[work];
        told.seasonFirst = first;
        told.seasonLast = last;
        forgetPlan();
        return true;
    }

    public boolean bar(int work, int place, int until) {
        if (!isWork(work) || !line.works[work].comesTo(place) || !isWithin(until, 0, LAST_DAY)
                || line.barCount >= MAX_BARS) {
            return false;
        }
        line.addBar(work, place, until);
        forgetPlan();
        return true;
    }

    public boolean rest(int day) {
        if (!isWithin(day, 0, REST_DAYS - 1) || !line.days.isWorking(day)) {
            return false;
        }
        line.days.giveRest(day);
        forgetPlan();
        return true;
    }

    public int most(int kind, int many) {
        if (!isKind(kind) || !isWithin(many, 0, MAX_MANY)) {
            return BAD;
        }
        int before = line.mosts[kind];
        line.mosts[kind] = many;
        forgetPlan();
        return before;
    }

    public int learned(int work, int places, int days) {
        if (!isWork(work) || !isWithin(places, 1, LEARNED_PLACES) || !isWithin(days, 1, LEARNED_DAYS)) {
            return BAD;
        }
        Work told = line.works[work];
        told.setSpeed(places / days);
        forgetPlan();
        return told.speed;
    }

    public int run(int tries) {
        if (!isWithin(tries, 1, MAX_TRIES) || line.workCount == 0) {
            return BAD;
        }
        search.seek(tries, false);
        return takeOutcome(false) ? planEnd : BAD;
    }

    public boolean proved() {
        return lastProved;
    }

    public int tried() {
        return lastTried;
    }

    public int told(int work, int what) {
        if (!isPlanned(work)) {
            return BAD;
        }
        switch (what) {
            case 0:
                return plan.starts[work];
            case 1:
                return line.endOf(work, plan.starts[work]);
            case 2:
                return plan.ways[work];
            default:
                return BAD;
        }
    }

    public int at(int work, int day) {
        if (!isPlanned(work) || day < 0) {
            return BAD;
        }
        return line.placeOn(work, plan, day);
    }

    public int passes(int work, int place, boolean leaves, int part) {
        if (!isPlanned(work) || !line.works[work].comesTo(place) || !isWithin(part, 0, 1)) {
            return BAD;
        }
        int upper = line.passTime(work, plan, place, leaves);
        int lower = line.works[work].speed;
        int divisor = commonDivisor(upper, lower);
        return divisor < 1 ? BAD : (part == 0 ? upper : lower) / divisor;
    }

    public boolean crosses(int a, int b) {
        if (!isPlanned(a) || !isPlanned(b)) {
            return false;
        }
        boolean firstIsA = false;
        boolean firstIsB = false;
        int last = line.lastShared(a, b);
        for (int place = line.firstShared(a, b); place <= last; place++) {
            int timeOfA = line.passTime(a, plan, place, false) * line.works[b].speed;
            int timeOfB = line.passTime(b, plan, place, false) * line.works[a].speed;
            firstIsA = firstIsA || timeOfA < timeOfB;
            firstIsB = firstIsB || timeOfB < timeOfA;
        }
        return firstIsA && firstIsB;
    }

    public int under(int kind, int day) {
        if (!planAtHand || !isKind(kind) || day < 0) {
            return BAD;
        }
        if (!line.days.isWorking(day)) {
            return 0;
        }
        int many = 0;
        for (int work = 0; work < line.workCount; work++) {
            int start = plan.starts[work];
            if (line.works[work].kind == kind && start <= day && day < line.endOf(work, start)) {
                many++;
            }
        }
        return many;
    }

    public int bound() {
        int greatest = 0;
        for (int crew = 0; crew < line.crewCount; crew++) {
            greatest = Math.max(greatest, line.daysOfCrew(crew));
        }
        return greatest;
    }

    public int lone(int k) {
        int passed = 0;
        for (int work = 0; work < line.workCount; work++) {
            if (!rules.canStandAlone(work)) {
                if (passed == k) {
                    return work;
                }
                passed++;
            }
        }
        return BAD;
    }

    public boolean late(int work, int days) {
        if (!isPlanned(work) || !isWithin(days, 0, MAX_LATE)) {
            return false;
        }
        line.works[work].notBefore = plan.starts[work] + days;
        return true;
    }

    public int freeze(int day) {
        if (!planAtHand || day < 0) {
            return BAD;
        }
        for (int work = 0; work < line.workCount; work++) {
            line.works[work].frozen = plan.starts[work] < day;
        }
        return line.frozenWorks();
    }

    public int replan(int tries) {
        if (!isWithin(tries, 1, MAX_TRIES) || !planAtHand) {
            return BAD;
        }
        search.seek(tries, true);
        return takeOutcome(true) ? search.bestMoves : BAD;
    }

    public boolean moved(int work) {
        return isPlanned(work) && movedWorks[work];
    }

    public int slack(int work) {
        if (!isPlanned(work)) {
            return BAD;
        }
        rules.open(room, plan, work, plan.ways[work], line.workCount);
        int later = 0;
        for (int start = plan.starts[work] + 1; start < STARTS; start++) {
            if (line.days.isWorking(start)) {
                if (!canStartLater(work, start)) {
                    break;
                }
                later++;
            }
        }
        return later;
    }

    public int odds(int day, int draws, int chance, int seed) {
        if (!planAtHand || day < 0 || !isWithin(draws, 1, MAX_DRAWS) || !isWithin(chance, 0, MAX_CHANCE)) {
            return BAD;
        }
        weather.begin(seed);
        int inTime = 0;
        for (int draw = 0; draw < draws; draw++) {
            if (weather.drawEnd(chance) <= day) {
                inTime++;
            }
        }
        return inTime;
    }

    public int count(int what) {
        switch (what) {
            case 0:
                return line.crewCount;
            case 1:
                return line.workCount;
            case 2:
                return line.days.rests;
            case 3:
                return line.barCount;
            case 4:
                return line.frozenWorks();
            case 5:
                return planAtHand ? planEnd : BAD;
            default:
                return BAD;
        }
    }

    private boolean isWork(int work) {
        return work >= 0 && work < line.workCount;
    }

    private boolean isPlanned(int work) {
        return planAtHand && isWork(work);
    }

    private static boolean isKind(int kind) {
        return isWithin(kind, 0, KINDS - 1);
    }

    private static boolean isWithin(int number, int least, int greatest) {
        return least <= number && number <= greatest;
    }

    private void forgetPlan() {
        planAtHand = false;
        for (int work = 0; work < line.workCount; work++) {
            line.works[work].notBefore = 0;
            line.works[work].frozen = false;
        }
    }

    /** Takes over what the search found: whether there is a plan by it; without one the plan at hand stays. */
    private boolean takeOutcome(boolean again) {
        lastTried = search.done;
        lastProved = !search.cutOff;
        if (!search.found) {
            return false;
        }
        for (int work = 0; work < line.workCount; work++) {
            int start = search.best.starts[work];
            int way = search.best.ways[work];
            // Told by the plan that was at hand, so before it is written over.
            movedWorks[work] = again && plan.isElsewhere(work, start, way);
            plan.put(work, start, way);
        }
        planEnd = search.bestEnd;
        planAtHand = true;
        return true;
    }

    private boolean canStartLater(int work, int start) {
        return room.holds(line.days.before(start))
                && line.endOf(work, start) <= planEnd
                && rules.hasRoom(plan, work, start, line.workCount);
    }

    /** Of a time and a speed, which is at most 50, so that looking at each number is cheap enough. */
    private static int commonDivisor(int time, int speed) {
        for (int divisor = speed; divisor > 1; divisor--) {
            if (time % divisor == 0 && speed % divisor == 0) {
                return divisor;
            }
        }
        return 1;
    }

    /** Which days are working days; those from 200 on all are. */
    private static final class Days {
        final boolean[] resting = new boolean[REST_DAYS];
        final int[] workingBefore = new int[REST_DAYS];
        final int[] workingDays = new int[REST_DAYS];
        int rests;

        Days() {
            countWorkingDays();
        }

        boolean isWorking(int day) {
            return day >= REST_DAYS || day >= 0 && !resting[day];
        }

        void giveRest(int day) {
            if (isWithin(day, 0, REST_DAYS - 1) && !resting[day]) {
                resting[day] = true;
                rests++;
                countWorkingDays();
            }
        }

        /** How many working days lie before a day: the number of that day if it is a working day. */
        int before(int day) {
            if (day < 0) {
                return 0;
            }
            return day < REST_DAYS ? workingBefore[day] : day - rests;
        }

        /** The day that is the working day of a number (0 and on). */
        int dayOf(int number) {
            if (number < 0) {
                return 0;
            }
            return number < REST_DAYS - rests ? workingDays[number] : number + rests;
        }

        private void countWorkingDays() {
            int many = 0;
            for (int day = 0; day < REST_DAYS; day++) {
                workingBefore[day] = many;
                if (!resting[day]) {
                    workingDays[many] = day;
                    many++;
                }
            }
        }
    }

    /** What was told of one work. */
    private static final class Work {
        int crewNumber;
        int kind;
        int from;
        int to;
        int speed = 1;
        int daysNeeded;
        boolean bothWays;
        int seasonFirst;
        int seasonLast = LAST_DAY;
        int notBefore;
        boolean frozen;

        void setSpeed(int places) {
            speed = Math.max(1, Math.min(TOP_SPEED, places));
            daysNeeded = speed < 1 ? 0 : (to - from + speed - 1) / speed;
        }

        boolean comesTo(int place) {
            return from <= place && place <= to;
        }

        int wayTo(int place, int way) {
            return way == FORWARD ? place - from : to - place;
        }

        /**
         * How many whole days of going lie before the day on which it arrives so far from its first place, or
         * leaves. The two differ where a day's way ends: it arrives on that day and leaves on the next one.
         */
        int wholeDays(int distance, boolean leaves) {
            boolean goesOn = distance == 0 || leaves && distance < to - from;
            return speed < 1 ? 0 : (goesOn ? distance : distance - 1) / speed;
        }
    }

    /** A start and a way for each work. */
    private static final class Placing {
        final int[] starts = new int[MAX_WORKS];
        final int[] ways = new int[MAX_WORKS];

        void put(int work, int start, int way) {
            if (isWithin(work, 0, MAX_WORKS - 1)) {
                starts[work] = start;
                ways[work] = way;
            }
        }

        boolean isElsewhere(int work, int start, int way) {
            return isWithin(work, 0, MAX_WORKS - 1) && (starts[work] != start || ways[work] != way);
        }
    }

    /** All that was told, and where and when works are by it. */
    private static final class Line {
        final Days days = new Days();
        final int[] crewKinds = new int[MAX_CREWS];
        final Work[] works = new Work[MAX_WORKS];
        final int[] gaps = new int[MAX_WORKS * MAX_WORKS];
        final int[] mosts = new int[KINDS];
        final int[] barWorks = new int[MAX_BARS];
        final int[] barPlaces = new int[MAX_BARS];
        final int[] barDays = new int[MAX_BARS];
        int crewCount;
        int workCount;
        int barCount;

        Line() {
            for (int work = 0; work < MAX_WORKS; work++) {
                works[work] = new Work();
            }
            for (int pair = 0; pair < gaps.length; pair++) {
                gaps[pair] = NO_GAP;
            }
            for (int kind = 0; kind < KINDS; kind++) {
                mosts[kind] = FIRST_MANY;
            }
        }

        int addCrew(int kind) {
            if (crewCount >= MAX_CREWS) {
                return BAD;
            }
            crewKinds[crewCount] = kind;
            crewCount++;
            return crewCount - 1;
        }

        int addWork(int crewNumber, int from, int to, int speed, boolean bothWays) {
            if (workCount >= MAX_WORKS || !isWithin(crewNumber, 0, MAX_CREWS - 1)) {
                return BAD;
            }
            Work added = works[workCount];
            added.crewNumber = crewNumber;
            added.kind = crewKinds[crewNumber];
            added.from = from;
            added.to = to;
            added.bothWays = bothWays;
            added.setSpeed(speed);
            workCount++;
            return workCount - 1;
        }

        void addBar(int work, int place, int until) {
            if (barCount < MAX_BARS) {
                barWorks[barCount] = work;
                barPlaces[barCount] = place;
                barDays[barCount] = until;
                barCount++;
            }
        }

        void setGap(int a, int b, int gap) {
            if (isWithin(a, 0, MAX_WORKS - 1) && isWithin(b, 0, MAX_WORKS - 1)) {
                gaps[a * MAX_WORKS + b] = gap;
            }
        }

        int gapBetween(int a, int b) {
            boolean known = isWithin(a, 0, MAX_WORKS - 1) && isWithin(b, 0, MAX_WORKS - 1);
            return known ? gaps[a * MAX_WORKS + b] : NO_GAP;
        }

        int firstShared(int a, int b) {
            return Math.max(works[a].from, works[b].from);
        }

        int lastShared(int a, int b) {
            return Math.min(works[a].to, works[b].to);
        }

        int endOf(int work, int start) {
            return days.dayOf(days.before(start) + works[work].daysNeeded - 1) + 1;
        }

        /** When a work arrives at a place or leaves it, in days times its speed. */
        int passTime(int work, Placing placing, int place, boolean leaves) {
            Work passing = works[work];
            int distance = passing.wayTo(place, placing.ways[work]);
            int whole = passing.wholeDays(distance, leaves);
            int day = days.dayOf(days.before(placing.starts[work]) + whole);
            return day * passing.speed + distance - whole * passing.speed;
        }

        int placeOn(int work, Placing placing, int day) {
            Work going = works[work];
            int start = placing.starts[work];
            int gone = 0;
            if (day >= endOf(work, start)) {
                gone = going.to - going.from;
            } else if (day > start) {
                gone = (days.before(day) - days.before(start)) * going.speed;
            }
            return placing.ways[work] == FORWARD ? going.from + gone : going.to - gone;
        }

        int daysOfCrew(int crewNumber) {
            int together = 0;
            for (int work = 0; work < workCount; work++) {
                if (works[work].crewNumber == crewNumber) {
                    together += works[work].daysNeeded;
                }
            }
            return together;
        }

        int frozenWorks() {
            int many = 0;
            for (int work = 0; work < workCount; work++) {
                if (works[work].frozen) {
                    many++;
                }
            }
            return many;
        }
    }

    /** Starts that are left to a work, as numbers of working days, from the least to the greatest. */
    private static final class Window {
        int least;
        int greatest;

        void set(int first, int last) {
            least = first;
            greatest = last;
        }

        void raiseLeast(int first) {
            least = Math.max(least, first);
        }

        void lowerGreatest(int last) {
            greatest = Math.min(greatest, last);
        }

        boolean holds(int start) {
            return least <= start && start <= greatest;
        }

        boolean isEmpty() {
            return least > greatest;
        }
    }

    /** The rules that a plan keeps. */
    private static final class Rules {
        final Line line;
        final Days days;
        final Window alone = new Window();

        Rules(Line told) {
            line = told;
            days = told.days;
        }

        boolean canStandAlone(int work) {
            openAlone(alone, work, FORWARD);
            if (alone.isEmpty() && line.works[work].bothWays) {
                openAlone(alone, work, BACKWARD);
            }
            return !alone.isEmpty();
        }

        /** The starts with which a work keeps its own rules, and the days told between it and the first so many. */
        void open(Window window, Placing others, int work, int way, int many) {
            openAlone(window, work, way);
            for (int other = 0; other < many; other++) {
                if (other != work) {
                    keepGaps(window, others, other, work, way);
                }
            }
        }

        private void openAlone(Window window, int work, int way) {
            Work opened = line.works[work];
            int lastByStart = days.before(STARTS) - 1;
            int lastBySeason = days.before(opened.seasonLast + 1) - opened.daysNeeded;
            window.set(days.before(opened.seasonFirst), Math.min(lastByStart, lastBySeason));
            window.raiseLeast(days.before(opened.notBefore));
            for (int told = 0; told < line.barCount; told++) {
                if (line.barWorks[told] == work) {
                    int distance = opened.wayTo(line.barPlaces[told], way);
                    window.raiseLeast(firstStart(opened, distance, line.barDays[told], 1));
                }
            }
        }

        private void keepGaps(Window window, Placing others, int other, int work, int way) {
            int gapBehind = line.gapBetween(other, work);
            int gapAhead = line.gapBetween(work, other);
            if (gapBehind == NO_GAP && gapAhead == NO_GAP) {
                return;
            }
            Work kept = line.works[work];
            int speed = line.works[other].speed;
            int last = line.lastShared(other, work);
            for (int place = line.firstShared(other, work); place <= last; place++) {
                int distance = kept.wayTo(place, way);
                if (gapBehind != NO_GAP) {
                    int free = line.passTime(other, others, place, true) + gapBehind * speed;
                    window.raiseLeast(firstStart(kept, distance, free, speed));
                }
                if (gapAhead != NO_GAP) {
                    int due = line.passTime(other, others, place, false) - gapAhead * speed;
                    window.lowerGreatest(lastStart(kept, distance, due, speed));
                }
            }
        }

        /** The first start with which a work arrives so far from its first place not before upper / lower. */
        private int firstStart(Work arriving, int distance, int upper, int lower) {
            int whole = arriving.wholeDays(distance, false);
            int part = distance - whole * arriving.speed;
            int scale = lower * arriving.speed;
            // Rounded up, by rounding down what is negated.
            int day = scale < 1 ? 0 : -Math.floorDiv(part * lower - upper * arriving.speed, scale);
            return days.before(day) - whole;
        }

        /** The last start with which a work leaves so far from its first place not behind upper / lower. */
        private int lastStart(Work leaving, int distance, int upper, int lower) {
            int whole = leaving.wholeDays(distance, true);
            int part = distance - whole * leaving.speed;
            int scale = lower * leaving.speed;
            int day = scale < 1 ? 0 : Math.floorDiv(upper * leaving.speed - part * lower, scale);
            return days.before(day + 1) - 1 - whole;
        }

        /** Whether a work with a start keeps to its crew's days and its kind's most, with the first so many works. */
        boolean hasRoom(Placing others, int work, int start, int many) {
            int first = days.before(start);
            int end = first + line.works[work].daysNeeded;
            if (isCrowded(others, work, first, many)) {
                return false;
            }
            for (int other = 0; other < many; other++) {
                if (other != work) {
                    int otherFirst = days.before(others.starts[other]);
                    int otherEnd = otherFirst + line.works[other].daysNeeded;
                    boolean meets = first < otherEnd && otherFirst < end;
                    boolean ofOneCrew = line.works[other].crewNumber == line.works[work].crewNumber;
                    if (meets && ofOneCrew) {
                        return false;
                    }
                    // No day between two starts has more works under way than the start before it.
                    if (meets && otherFirst > first && isCrowded(others, work, otherFirst, many)) {
                        return false;
                    }
                }
            }
            return true;
        }

        /** Whether too many works of a work's kind are under way on a working day on which it is, too. */
        private boolean isCrowded(Placing others, int work, int day, int many) {
            int kind = line.works[work].kind;
            int together = 1;
            for (int other = 0; other < many; other++) {
                if (other != work && line.works[other].kind == kind) {
                    int first = days.before(others.starts[other]);
                    if (first <= day && day < first + line.works[other].daysNeeded) {
                        together++;
                    }
                }
            }
            return !isWithin(kind, 0, KINDS - 1) || together > line.mosts[kind];
        }
    }

    /** The search in order: one level for each work. */
    private static final class Search {
        final Line line;
        final Rules rules;
        final Placing home;
        final Placing now = new Placing();
        final Placing best = new Placing();
        final Window[] windows = new Window[MAX_WORKS * WAYS];
        final int[] ends = new int[MAX_WORKS];
        final int[] moves = new int[MAX_WORKS];
        boolean again;
        int granted;
        int done;
        boolean cutOff;
        boolean found;
        int bestEnd;
        int bestMoves;

        Search(Line told, Rules kept, Placing planAtHand) {
            line = told;
            rules = kept;
            home = planAtHand;
            for (int window = 0; window < windows.length; window++) {
                windows[window] = new Window();
            }
        }

        void seek(int tries, boolean fromPlanAtHand) {
            again = fromPlanAtHand;
            granted = tries;
            done = 0;
            cutOff = false;
            found = false;
            tryStarts(0);
        }

        private void tryStarts(int level) {
            if (level >= line.workCount || level >= MAX_WORKS) {
                return;
            }
            Work tried = line.works[level];
            int firstStart = tried.frozen ? home.starts[level] : 0;
            int lastStart = tried.frozen ? firstStart : STARTS - 1;
            int firstWay = tried.frozen ? home.ways[level] : FORWARD;
            int lastWay = tried.frozen ? firstWay : tried.bothWays ? BACKWARD : FORWARD;
            for (int way = firstWay; way <= lastWay; way++) {
                rules.open(windows[level * WAYS + way], now, level, way, level);
            }
            for (int start = firstStart; start <= lastStart && !cutOff; start++) {
                for (int way = firstWay; way <= lastWay && !cutOff; way++) {
                    tryOne(level, start, way);
                }
            }
        }

        private void tryOne(int level, int start, int way) {
            // Only a try that is left undone tells that the search was cut off.
            if (done >= granted) {
                cutOff = true;
                return;
            }
            done++;
            int latest = Math.max(line.endOf(level, start), level > 0 ? ends[level - 1] : 0);
            int many = (level > 0 ? moves[level - 1] : 0) + (isMove(level, start, way) ? 1 : 0);
            if (!isBetter(latest, many) || !keepsRules(level, start, way)) {
                return;
            }
            now.put(level, start, way);
            ends[level] = latest;
            moves[level] = many;
            if (level == line.workCount - 1) {
                keepAsBest(level);
            } else {
                tryStarts(level + 1);
            }
        }

        private boolean isMove(int level, int start, int way) {
            return again && home.isElsewhere(level, start, way);
        }

        /** In a first search no work counts as moved, so that the ends alone decide. */
        private boolean isBetter(int latest, int many) {
            return !found || many < bestMoves || many == bestMoves && latest < bestEnd;
        }

        private boolean keepsRules(int level, int start, int way) {
            return line.days.isWorking(start)
                    && windows[level * WAYS + way].holds(line.days.before(start))
                    && rules.hasRoom(now, level, start, level);
        }

        private void keepAsBest(int level) {
            found = true;
            bestEnd = ends[level];
            bestMoves = moves[level];
            for (int work = 0; work <= level; work++) {
                best.put(work, now.starts[work], now.ways[work]);
            }
        }
    }

    /** Draws of wet days, and when the works of the plan at hand end by them. */
    private static final class Weather {
        final Line line;
        final Placing plan;
        final int[] daysLeft = new int[MAX_WORKS];
        int state;

        Weather(Line told, Placing planAtHand) {
            line = told;
            plan = planAtHand;
        }

        void begin(int seed) {
            state = seed;
        }

        int drawEnd(int chance) {
            for (int work = 0; work < line.workCount; work++) {
                daysLeft[work] = line.works[work].daysNeeded;
            }
            int end = 0;
            for (int day = 0; day < WEATHER_DAYS; day++) {
                boolean wet = drawWet(chance);
                if (!wet && line.days.isWorking(day) && goOn(day)) {
                    end = day + 1;
                }
            }
            // All days behind the drawn ones are working days.
            for (int work = 0; work < line.workCount; work++) {
                if (daysLeft[work] > 0) {
                    end = Math.max(end, WEATHER_DAYS + daysLeft[work]);
                }
            }
            return end;
        }

        private boolean drawWet(int chance) {
            state = (state * WEATHER_FACTOR + WEATHER_STEP) & LOWEST_31_BITS;
            return state / WEATHER_CUT % PERCENT < chance;
        }

        /** One working day: whether a work goes on it. */
        private boolean goOn(int day) {
            boolean goes = false;
            for (int work = 0; work < line.workCount; work++) {
                if (daysLeft[work] > 0 && plan.starts[work] <= day) {
                    daysLeft[work]--;
                    goes = true;
                }
            }
            return goes;
        }
    }
}
