import java.util.ArrayList;
import java.util.HashMap;
import java.util.List;
import java.util.Map;

/**
 * The document's words, written down as plainly as can be: every work is led along the line day by day, and every rule
 * is looked at by its own words at every place and day. It shares no thought with the class, so that both err together
 * only where the document was read wrongly.
 */
final class PlainModel {
    static final int BAD = -1;

    static final class Job {
        int crew;
        int from;
        int to;
        int speed;
        boolean both;
        int first = 0;
        int last = 999;
        int late = 0;
        boolean frozen;
        final List<int[]> bars = new ArrayList<>();
    }

    /** A work on its way: times are in days times its speed. */
    static final class Way {
        int start;
        int way;
        int end;
        int speed;
        final long[] arrives = new long[201];
        final long[] leaves = new long[201];
        final List<Integer> goes = new ArrayList<>();
    }

    final List<Integer> kinds = new ArrayList<>();
    final List<Job> jobs = new ArrayList<>();
    final Map<String, Integer> afters = new HashMap<>();
    final boolean[] resting = new boolean[200];
    final int[] mosts = {4, 4, 4, 4};
    final Map<String, Way> known = new HashMap<>();
    Way[] plan;
    boolean[] movedJobs = new boolean[6];
    boolean wasProved;
    int wasTried;

    private int granted;
    private int done;
    private boolean cut;
    private boolean again;
    private Way[] best;

    private void changed() {
        plan = null;
        known.clear();
        for (Job job : jobs) {
            job.late = 0;
            job.frozen = false;
        }
    }

    private boolean isJob(int work) {
        return work >= 0 && work < jobs.size();
    }

    private boolean working(int day) {
        return day >= 200 || !resting[day];
    }

    private int bars() {
        int many = 0;
        for (Job job : jobs) {
            many += job.bars.size();
        }
        return many;
    }

    int crew(int kind) {
        if (kind < 0 || kind > 3 || kinds.size() == 4) {
            return BAD;
        }
        changed();
        kinds.add(kind);
        return kinds.size() - 1;
    }

    int work(int crew, int from, int to, int speed, boolean both) {
        if (crew < 0 || crew >= kinds.size() || from < 0 || from >= to || to > 200) {
            return BAD;
        }
        if (speed < 1 || speed > 50 || jobs.size() == 6) {
            return BAD;
        }
        changed();
        Job job = new Job();
        job.crew = crew;
        job.from = from;
        job.to = to;
        job.speed = speed;
        job.both = both;
        jobs.add(job);
        return jobs.size() - 1;
    }

    boolean after(int a, int b, int days) {
        if (!isJob(a) || !isJob(b) || a == b || days < 0 || days > 30) {
            return false;
        }
        changed();
        afters.put(a + ">" + b, days);
        return true;
    }

    boolean season(int work, int first, int last) {
        if (!isJob(work) || first < 0 || first > last || last > 999) {
            return false;
        }
        changed();
        jobs.get(work).first = first;
        jobs.get(work).last = last;
        return true;
    }

    boolean bar(int work, int place, int until) {
        if (!isJob(work) || place < jobs.get(work).from || place > jobs.get(work).to) {
            return false;
        }
        if (until < 0 || until > 999 || bars() == 8) {
            return false;
        }
        changed();
        jobs.get(work).bars.add(new int[] {place, until});
        return true;
    }

    boolean rest(int day) {
        if (day < 0 || day > 199 || resting[day]) {
            return false;
        }
        changed();
        resting[day] = true;
        return true;
    }

    int most(int kind, int many) {
        if (kind < 0 || kind > 3 || many < 0 || many > 6) {
            return BAD;
        }
        changed();
        int was = mosts[kind];
        mosts[kind] = many;
        return was;
    }

    int learned(int work, int places, int days) {
        if (!isJob(work) || places < 1 || places > 10000 || days < 1 || days > 1000) {
            return BAD;
        }
        changed();
        int speed = places / days;
        if (speed < 1) {
            speed = 1;
        }
        if (speed > 50) {
            speed = 50;
        }
        jobs.get(work).speed = speed;
        return speed;
    }

    /** Leads a work along the line, one day behind the other. */
    private Way lead(int work, int start, int way) {
        String name = work + "/" + start + "/" + way;
        Way led = known.get(name);
        if (led != null) {
            return led;
        }
        led = new Way();
        Job job = jobs.get(work);
        led.start = start;
        led.way = way;
        led.speed = job.speed;
        int here = way == 0 ? job.from : job.to;
        int goal = way == 0 ? job.to : job.from;
        int step = way == 0 ? 1 : -1;
        led.arrives[here] = (long) start * job.speed;
        int day = start;
        while (here != goal) {
            if (working(day)) {
                led.goes.add(day);
                led.leaves[here] = (long) day * job.speed;
                for (int part = 1; part <= job.speed && here != goal; part++) {
                    here += step;
                    led.arrives[here] = (long) day * job.speed + part;
                    led.leaves[here] = led.arrives[here];
                }
                led.end = day + 1;
            }
            day++;
        }
        known.put(name, led);
        return led;
    }

    private boolean keepsOwn(int work, Way led) {
        Job job = jobs.get(work);
        if (led.start < 0 || led.start > 99 || !working(led.start) || led.start < job.late) {
            return false;
        }
        for (int day : led.goes) {
            if (day < job.first || day > job.last) {
                return false;
            }
        }
        for (int[] bar : job.bars) {
            if (led.arrives[bar[0]] < (long) bar[1] * led.speed) {
                return false;
            }
        }
        return true;
    }

    private boolean keepsPair(int a, Way wayOfA, int b, Way wayOfB) {
        Job jobA = jobs.get(a);
        Job jobB = jobs.get(b);
        if (jobA.crew == jobB.crew && wayOfA.end > wayOfB.start && wayOfB.end > wayOfA.start) {
            return false;
        }
        return keepsAfter(a, wayOfA, b, wayOfB) && keepsAfter(b, wayOfB, a, wayOfA);
    }

    private boolean keepsAfter(int a, Way wayOfA, int b, Way wayOfB) {
        Integer days = afters.get(a + ">" + b);
        if (days == null) {
            return true;
        }
        for (int place = 0; place <= 200; place++) {
            if (comes(a, place) && comes(b, place)) {
                long free = (wayOfA.leaves[place] + (long) days * wayOfA.speed) * wayOfB.speed;
                if (wayOfB.arrives[place] * wayOfA.speed < free) {
                    return false;
                }
            }
        }
        return true;
    }

    private boolean comes(int work, int place) {
        return place >= jobs.get(work).from && place <= jobs.get(work).to;
    }

    private boolean keepsMost(Way[] placed, int many) {
        for (int day = 0; day < 400; day++) {
            if (working(day)) {
                for (int kind = 0; kind < 4; kind++) {
                    if (underWay(placed, many, kind, day) > mosts[kind]) {
                        return false;
                    }
                }
            }
        }
        return true;
    }

    private int underWay(Way[] placed, int many, int kind, int day) {
        int found = 0;
        for (int work = 0; work < many; work++) {
            boolean under = placed[work].start <= day && day <= placed[work].end - 1;
            if (under && kinds.get(jobs.get(work).crew) == kind) {
                found++;
            }
        }
        return found;
    }

    private static int endOf(Way[] placed, int many) {
        int end = 0;
        for (int work = 0; work < many; work++) {
            end = Math.max(end, placed[work].end);
        }
        return end;
    }

    private int movesOf(Way[] placed, int many) {
        int moves = 0;
        for (int work = 0; again && work < many; work++) {
            if (isMoved(placed, work)) {
                moves++;
            }
        }
        return moves;
    }

    private boolean isMoved(Way[] placed, int work) {
        return placed[work].start != plan[work].start || placed[work].way != plan[work].way;
    }

    private void search(Way[] placed, int work) {
        Job job = jobs.get(work);
        for (int start = 0; start <= 99; start++) {
            for (int way = 0; way <= (job.both ? 1 : 0); way++) {
                if (job.frozen && (plan[work].start != start || plan[work].way != way)) {
                    continue;
                }
                if (done == granted) {
                    cut = true;
                    return;
                }
                done++;
                placed[work] = lead(work, start, way);
                if (!goesOn(placed, work)) {
                    continue;
                }
                if (work == jobs.size() - 1) {
                    best = placed.clone();
                } else {
                    search(placed, work + 1);
                }
            }
        }
    }

    private boolean goesOn(Way[] placed, int work) {
        if (best != null) {
            boolean sooner = endOf(placed, work + 1) < endOf(best, jobs.size());
            int moves = movesOf(placed, work + 1);
            int bestMoves = movesOf(best, jobs.size());
            boolean better = again ? moves < bestMoves || moves == bestMoves && sooner : sooner;
            if (!better) {
                return false;
            }
        }
        if (!keepsOwn(work, placed[work])) {
            return false;
        }
        for (int other = 0; other < work; other++) {
            if (!keepsPair(other, placed[other], work, placed[work])) {
                return false;
            }
        }
        return keepsMost(placed, work + 1);
    }

    private boolean seek(int tries, boolean isAgain) {
        granted = tries;
        done = 0;
        cut = false;
        again = isAgain;
        best = null;
        search(new Way[jobs.size()], 0);
        wasTried = done;
        wasProved = !cut;
        return best != null;
    }

    int run(int tries) {
        if (tries < 1 || tries > 20000 || jobs.isEmpty() || !seek(tries, false)) {
            return BAD;
        }
        plan = best;
        movedJobs = new boolean[6];
        return endOf(plan, jobs.size());
    }

    int replan(int tries) {
        if (tries < 1 || tries > 20000 || plan == null || !seek(tries, true)) {
            return BAD;
        }
        int moves = movesOf(best, jobs.size());
        movedJobs = new boolean[6];
        for (int work = 0; work < jobs.size(); work++) {
            movedJobs[work] = isMoved(best, work);
        }
        plan = best;
        return moves;
    }

    boolean proved() {
        return wasProved;
    }

    int tried() {
        return wasTried;
    }

    int told(int work, int what) {
        if (plan == null || !isJob(work) || what < 0 || what > 2) {
            return BAD;
        }
        return what == 0 ? plan[work].start : what == 1 ? plan[work].end : plan[work].way;
    }

    int at(int work, int day) {
        if (plan == null || !isJob(work) || day < 0) {
            return BAD;
        }
        Job job = jobs.get(work);
        Way led = plan[work];
        int gone = 0;
        for (int going : led.goes) {
            if (going < day) {
                gone = Math.min(gone + job.speed, job.to - job.from);
            }
        }
        return led.way == 0 ? job.from + gone : job.to - gone;
    }

    int passes(int work, int place, boolean leaves, int part) {
        if (plan == null || !isJob(work) || !comes(work, place) || part < 0 || part > 1) {
            return BAD;
        }
        long upper = leaves ? plan[work].leaves[place] : plan[work].arrives[place];
        long lower = plan[work].speed;
        long a = upper;
        long b = lower;
        while (b != 0) {
            long c = a % b;
            a = b;
            b = c;
        }
        return (int) ((part == 0 ? upper : lower) / a);
    }

    boolean crosses(int a, int b) {
        if (plan == null || !isJob(a) || !isJob(b)) {
            return false;
        }
        boolean one = false;
        boolean other = false;
        for (int place = 0; place <= 200; place++) {
            if (comes(a, place) && comes(b, place)) {
                long timeA = plan[a].arrives[place] * plan[b].speed;
                long timeB = plan[b].arrives[place] * plan[a].speed;
                one |= timeA < timeB;
                other |= timeB < timeA;
            }
        }
        return one && other;
    }

    int under(int kind, int day) {
        if (plan == null || kind < 0 || kind > 3 || day < 0) {
            return BAD;
        }
        return working(day) ? underWay(plan, jobs.size(), kind, day) : 0;
    }

    int bound() {
        int greatest = 0;
        for (int crew = 0; crew < kinds.size(); crew++) {
            int sum = 0;
            for (Job job : jobs) {
                if (job.crew == crew) {
                    sum += (int) Math.ceil((job.to - job.from) / (double) job.speed);
                }
            }
            greatest = Math.max(greatest, sum);
        }
        return greatest;
    }

    int lone(int k) {
        List<Integer> lone = new ArrayList<>();
        for (int work = 0; work < jobs.size(); work++) {
            boolean some = false;
            for (int start = 0; start <= 99; start++) {
                some |= keepsOwn(work, lead(work, start, 0));
                some |= jobs.get(work).both && keepsOwn(work, lead(work, start, 1));
            }
            if (!some) {
                lone.add(work);
            }
        }
        return k < 0 || k >= lone.size() ? BAD : lone.get(k);
    }

    boolean late(int work, int days) {
        if (plan == null || !isJob(work) || days < 0 || days > 100) {
            return false;
        }
        jobs.get(work).late = plan[work].start + days;
        return true;
    }

    int freeze(int day) {
        if (plan == null || day < 0) {
            return BAD;
        }
        for (int work = 0; work < jobs.size(); work++) {
            jobs.get(work).frozen = plan[work].start < day;
        }
        return count(4);
    }

    boolean moved(int work) {
        return plan != null && isJob(work) && movedJobs[work];
    }

    int slack(int work) {
        if (plan == null || !isJob(work)) {
            return BAD;
        }
        int end = endOf(plan, jobs.size());
        int days = 0;
        for (int start = plan[work].start + 1; start <= 99; start++) {
            if (!working(start)) {
                continue;
            }
            Way[] placed = plan.clone();
            placed[work] = lead(work, start, plan[work].way);
            boolean kept = keepsOwn(work, placed[work]) && keepsMost(placed, jobs.size());
            for (int other = 0; other < jobs.size(); other++) {
                kept &= other == work || keepsPair(other, placed[other], work, placed[work]);
            }
            if (!kept || placed[work].end > end) {
                return days;
            }
            days++;
        }
        return days;
    }

    int odds(int day, int draws, int chance, int seed) {
        if (plan == null || day < 0 || draws < 1 || draws > 50 || chance < 0 || chance > 90) {
            return BAD;
        }
        long x = seed;
        int good = 0;
        for (int draw = 0; draw < draws; draw++) {
            boolean[] off = new boolean[1200];
            for (int d = 0; d < 400; d++) {
                x = (x * 1103515245L + 12345L) & 0x7fffffffL;
                off[d] = x / 65536 % 100 < chance || !working(d);
            }
            boolean inTime = true;
            for (int work = 0; work < jobs.size(); work++) {
                int left = jobs.get(work).to - jobs.get(work).from;
                int d = plan[work].start;
                while (left > 0) {
                    left -= off[d] ? 0 : jobs.get(work).speed;
                    d++;
                }
                inTime &= d <= day;
            }
            good += inTime ? 1 : 0;
        }
        return good;
    }

    int count(int what) {
        int rests = 0;
        for (boolean is : resting) {
            rests += is ? 1 : 0;
        }
        int frozen = 0;
        for (Job job : jobs) {
            frozen += job.frozen ? 1 : 0;
        }
        switch (what) {
            case 0: return kinds.size();
            case 1: return jobs.size();
            case 2: return rests;
            case 3: return bars();
            case 4: return frozen;
            case 5: return plan == null ? BAD : endOf(plan, jobs.size());
            default: return BAD;
        }
    }
}
