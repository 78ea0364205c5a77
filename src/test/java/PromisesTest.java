/** For each promise the ordinary case, the edges that the document names, and wrong inputs, reckoned by hand. */
public final class PromisesTest {
    private static final int BAD = PlaceTimePlans.BAD;
    private static final int ALL = 20000;
    private static int wrong;
    private static int looked;

    public static void main(String[] args) {
        newObject();
        crew();
        work();
        after();
        afterAtDaysEnds();
        afterOverRestDays();
        season();
        bar();
        rest();
        most();
        learned();
        run();
        runOneCrew();
        provedAndTried();
        told();
        at();
        passes();
        crosses();
        under();
        bound();
        lone();
        late();
        freeze();
        replan();
        replanWithSoonerEnd();
        moved();
        slack();
        slackByRules();
        odds();
        count();
        toldAgain();
        System.out.println(looked + " answers, " + wrong + " of them not as due");
        if (wrong != 0) {
            System.exit(1);
        }
    }

    private static void due(String what, int got, int want) {
        looked++;
        if (got != want) {
            wrong++;
            System.out.println(what + ": answered " + got + ", due is " + want);
        }
    }

    private static void due(String what, boolean got, boolean want) {
        due(what, got ? 1 : 0, want ? 1 : 0);
    }

    /** Crews 0 .. 3 of kinds 0 .. 3. */
    private static PlaceTimePlans withCrews(int many) {
        PlaceTimePlans plans = new PlaceTimePlans();
        for (int kind = 0; kind < many; kind++) {
            plans.crew(kind);
        }
        return plans;
    }

    /** One work of a crew: 0 .. 10 with so many places a day. */
    private static PlaceTimePlans withWork(int speed, boolean both) {
        PlaceTimePlans plans = withCrews(1);
        plans.work(0, 0, 10, speed, both);
        return plans;
    }

    /** Two works of two crews, both 0 .. 10. */
    private static PlaceTimePlans withTwoWorks(int speed, int speedOfNext) {
        PlaceTimePlans plans = withCrews(2);
        plans.work(0, 0, 10, speed, false);
        plans.work(1, 0, 10, speedOfNext, false);
        return plans;
    }

    private static void newObject() {
        PlaceTimePlans plans = new PlaceTimePlans();
        for (int what = 0; what < 5; what++) {
            due("1 count " + what, plans.count(what), 0);
        }
        due("1 no plan", plans.count(5), BAD);
        due("1 BAD", BAD, -1);
        PlaceTimePlans other = withWork(5, false);
        due("1 the other one has a work", other.count(1), 1);
        due("1 objects share nothing", plans.count(1), 0);
    }

    private static void crew() {
        PlaceTimePlans plans = new PlaceTimePlans();
        due("2 kind -1", plans.crew(-1), BAD);
        due("2 kind 4", plans.crew(4), BAD);
        due("2 first", plans.crew(3), 0);
        due("2 second of one kind", plans.crew(3), 1);
        due("2 third", plans.crew(0), 2);
        plans.work(0, 0, 10, 5, false);
        due("2 plan", plans.run(ALL), 2);
        plans.freeze(1);
        due("2 refused", plans.crew(4), BAD);
        due("2 plan stays", plans.count(5), 2);
        due("2 frozen stays", plans.count(4), 1);
        due("2 fourth", plans.crew(0), 3);
        due("2 plan is gone", plans.count(5), BAD);
        due("2 frozen is gone", plans.count(4), 0);
        plans.run(ALL);
        due("2 fifth", plans.crew(0), BAD);
        due("2 fifth, plan stays", plans.count(5), 2);
        due("2 crews", plans.count(0), 4);
        PlaceTimePlans late = withWork(5, false);
        late.run(ALL);
        late.late(0, 7);
        due("2 late", late.run(ALL), 9);
        late.crew(0);
        due("2 late is gone", late.run(ALL), 2);
    }

    private static void work() {
        PlaceTimePlans plans = new PlaceTimePlans();
        due("3 no crew", plans.work(0, 0, 10, 1, false), BAD);
        plans.crew(0);
        due("3 crew -1", plans.work(-1, 0, 10, 1, false), BAD);
        due("3 crew 1", plans.work(1, 0, 10, 1, false), BAD);
        due("3 from -1", plans.work(0, -1, 10, 1, false), BAD);
        due("3 to 201", plans.work(0, 0, 201, 1, false), BAD);
        due("3 from is to", plans.work(0, 7, 7, 1, false), BAD);
        due("3 from above to", plans.work(0, 8, 7, 1, false), BAD);
        due("3 speed 0", plans.work(0, 0, 10, 0, false), BAD);
        due("3 speed 51", plans.work(0, 0, 10, 51, false), BAD);
        due("3 none yet", plans.count(1), 0);
        due("3 whole line", plans.work(0, 0, 200, 50, false), 0);
        due("3 its days", plans.run(ALL), 4);
        due("3 one place", plans.work(0, 199, 200, 1, true), 1);
        due("3 plan is gone", plans.count(5), BAD);
        for (int work = 2; work < 6; work++) {
            due("3 work " + work, plans.work(0, 0, 1, 1, false), work);
        }
        due("3 six works of one crew", plans.run(ALL), 9);
        due("3 seventh", plans.work(0, 0, 1, 1, false), BAD);
        due("3 works", plans.count(1), 6);
        due("3 seventh, plan stays", plans.count(5), 9);
    }

    private static void after() {
        PlaceTimePlans plans = withTwoWorks(10, 10);
        due("4 together", plans.run(ALL), 1);
        due("4 0 days", plans.after(0, 1, 0), true);
        due("4 plan is gone", plans.count(5), BAD);
        due("4 arrives when the other one leaves", plans.run(ALL), 1);
        due("4 5 days", plans.after(0, 1, 5), true);
        due("4 5 days later", plans.run(ALL), 6);
        due("4 2 days", plans.after(0, 1, 2), true);
        due("4 what was told is no more", plans.run(ALL), 3);
        due("4 start", plans.told(1, 0), 2);
        due("4 30 days", plans.after(0, 1, 30), true);
        due("4 31 days", plans.after(0, 1, 31), false);
        due("4 -1 days", plans.after(0, 1, -1), false);
        due("4 one work", plans.after(1, 1, 1), false);
        due("4 no work 2", plans.after(0, 2, 1), false);
        due("4 no work -1", plans.after(-1, 1, 1), false);
        due("4 30 days later", plans.run(ALL), 31);
        due("4 also the other way round", plans.after(1, 0, 0), true);
        due("4 both can't be", plans.run(ALL), BAD);
        PlaceTimePlans thirds = withCrews(2);
        thirds.work(0, 0, 6, 3, false);
        thirds.work(1, 0, 6, 4, false);
        thirds.after(0, 1, 0);
        // With start 0 the second one is at place 1 after a quarter of a day, the first one leaves it after a third.
        due("4 fractions", thirds.run(ALL), 3);
        due("4 fractions, start", thirds.told(1, 0), 1);
        PlaceTimePlans apart = withCrews(2);
        apart.work(0, 0, 10, 1, false);
        apart.work(1, 11, 20, 1, false);
        apart.after(0, 1, 30);
        due("4 no place that both come to", apart.run(ALL), 10);
    }

    private static void afterAtDaysEnds() {
        PlaceTimePlans plans = withCrews(2);
        plans.work(0, 0, 8, 4, false);
        plans.work(1, 4, 6, 2, false);
        plans.after(0, 1, 0);
        plans.rest(1);
        due("4 stays at a day's end over a rest day", plans.run(ALL), 3);
        due("4 start behind the rest day", plans.told(1, 0), 2);
        PlaceTimePlans last = withCrews(2);
        last.work(0, 0, 6, 4, false);
        last.work(1, 6, 8, 2, false);
        last.after(0, 1, 0);
        // It leaves its last place when it arrives, at 3/2; the next start is day 2.
        due("4 last place", last.run(ALL), 3);
        PlaceTimePlans back = withCrews(2);
        back.work(0, 0, 6, 3, false);
        back.work(1, 0, 6, 3, true);
        back.after(0, 1, 1);
        back.bar(1, 0, 4);
        // Forward it starts on day 4; backward it may be at place 6 at 2 and 1, and comes to 0 at 5.
        due("4 backward", back.run(ALL), 5);
        due("4 backward, way", back.told(1, 2), 1);
        due("4 backward, start", back.told(1, 0), 3);
    }

    /** Works that are alike, 0 .. 8 with 4 places a day: on day 1, a rest day, they stay at place 4. */
    private static void afterOverRestDays() {
        for (int first = 0; first < 2; first++) {
            PlaceTimePlans plans = withCrews(2);
            plans.work(0, 0, 8, 4, false);
            plans.work(1, 0, 8, 4, false);
            plans.after(first, 1 - first, 0);
            due("4 alike, without a rest day", plans.run(ALL), 2);
            plans.rest(1);
            due("4 arrives while the other one rests", plans.run(ALL), 4);
            due("4 the first one", plans.told(first, 0), 0);
            due("4 the one behind it", plans.told(1 - first, 0), 2);
        }
        PlaceTimePlans last = withCrews(2);
        last.work(0, 10, 15, 5, true);
        last.work(1, 0, 10, 10, false);
        last.bar(0, 10, 1);
        last.rest(1);
        last.after(0, 1, 0);
        due("4 does not stay at its last place over a rest day", last.run(ALL), 1);
        due("4 last place, way", last.told(0, 2), 1);
        due("4 last place, leaves", last.passes(0, 10, true, 0), 1);
        PlaceTimePlans slow = withCrews(2);
        slow.work(0, 0, 3, 1, false);
        slow.work(1, 0, 3, 1, false);
        slow.after(1, 0, 2);
        slow.season(0, 5, 999);
        due("4 one place a day", slow.run(ALL), 8);
        due("4 slack before the other one", slow.slack(1), 3);
    }

    private static void season() {
        PlaceTimePlans plans = withWork(5, false);
        due("5 season", plans.season(0, 7, 9), true);
        due("5 first day", plans.run(ALL), 9);
        due("5 start", plans.told(0, 0), 7);
        due("5 just long enough", plans.season(0, 8, 9), true);
        due("5 plan is gone", plans.count(5), BAD);
        due("5 just long enough, end", plans.run(ALL), 10);
        due("5 too short", plans.season(0, 9, 9), true);
        due("5 no plan", plans.run(ALL), BAD);
        due("5 lone", plans.lone(0), 0);
        due("5 last start", plans.season(0, 99, 100), true);
        due("5 last start, end", plans.run(ALL), 101);
        due("5 behind all starts", plans.season(0, 100, 999), true);
        due("5 behind all starts, no plan", plans.run(ALL), BAD);
        due("5 first -1", plans.season(0, -1, 9), false);
        due("5 last below first", plans.season(0, 9, 8), false);
        due("5 last 1000", plans.season(0, 0, 1000), false);
        due("5 no work", plans.season(1, 0, 9), false);
        due("5 work -1", plans.season(-1, 0, 9), false);
        due("5 whole", plans.season(0, 0, 999), true);
        due("5 whole, end", plans.run(ALL), 2);
        plans.season(0, 7, 9);
        plans.rest(8);
        due("5 a rest day inside", plans.run(ALL), 10);
        plans.rest(9);
        due("5 too many rest days inside", plans.run(ALL), BAD);
    }

    private static void bar() {
        PlaceTimePlans plans = withWork(4, false);
        due("6 bar", plans.bar(0, 6, 5), true);
        // With start s it is at place 6 at s + 3/2.
        due("6 bar, end", plans.run(ALL), 7);
        due("6 bar, start", plans.told(0, 0), 4);
        due("6 an earlier day told later", plans.bar(0, 6, 3), true);
        due("6 plan is gone", plans.count(5), BAD);
        due("6 both hold", plans.run(ALL), 7);
        due("6 just on the day", plans.bar(0, 4, 5), true);
        due("6 just on the day, start", plans.run(ALL), 7);
        due("6 first place", plans.bar(0, 0, 6), true);
        due("6 first place, end", plans.run(ALL), 9);
        due("6 last place", plans.bar(0, 10, 0), true);
        due("6 place -1", plans.bar(0, -1, 1), false);
        due("6 place 11", plans.bar(0, 11, 1), false);
        due("6 day -1", plans.bar(0, 1, -1), false);
        due("6 day 1000", plans.bar(0, 1, 1000), false);
        due("6 no work", plans.bar(1, 1, 1), false);
        due("6 bars", plans.count(3), 5);
        plans.bar(0, 1, 1);
        plans.bar(0, 2, 1);
        due("6 eighth", plans.bar(0, 3, 1), true);
        plans.run(ALL);
        due("6 ninth", plans.bar(0, 4, 1), false);
        due("6 ninth, plan stays", plans.count(5), 9);
        due("6 eight", plans.count(3), 8);
        PlaceTimePlans back = withWork(1, true);
        due("6 day 999", back.bar(0, 0, 999), true);
        due("6 never", back.lone(0), 0);
        PlaceTimePlans way = withWork(1, true);
        way.bar(0, 0, 9);
        due("6 backward it comes there late enough", way.run(ALL), 10);
        due("6 way", way.told(0, 2), 1);
    }

    private static void rest() {
        PlaceTimePlans plans = withWork(5, false);
        due("7 day -1", plans.rest(-1), false);
        due("7 day 200", plans.rest(200), false);
        due("7 day 1", plans.rest(1), true);
        due("7 it was", plans.rest(1), false);
        due("7 end", plans.run(ALL), 3);
        due("7 it was, the plan stays", plans.rest(1) ? BAD : plans.count(5), 3);
        due("7 day 0", plans.rest(0), true);
        due("7 plan is gone", plans.count(5), BAD);
        due("7 starts on a working day", plans.run(ALL), 4);
        due("7 start", plans.told(0, 0), 2);
        due("7 day 199", plans.rest(199), true);
        due("7 days", plans.count(2), 3);
        for (int day = 0; day < 99; day++) {
            plans.rest(day);
        }
        due("7 last start", plans.run(ALL), 101);
        plans.rest(99);
        due("7 no start", plans.run(ALL), BAD);
        due("7 no start, lone", plans.lone(0), 0);
        PlaceTimePlans over = withWork(5, false);
        for (int day = 1; day < 200; day++) {
            over.rest(day);
        }
        due("7 all days from 200 on are working days", over.run(ALL), 201);
        due("7 at place 5 all the time", over.at(0, 200), 5);
        over.season(0, 0, 199);
        due("7 no working day is left in the season", over.run(ALL), BAD);
        over.season(0, 0, 200);
        due("7 one is left", over.run(ALL), 201);
        over.bar(0, 10, 201);
        due("7 there on time", over.run(ALL), 201);
        over.bar(0, 10, 202);
        due("7 too early", over.run(ALL), BAD);
        PlaceTimePlans far = withCrews(1);
        far.work(0, 0, 200, 1, false);
        for (int day = 100; day < 200; day++) {
            far.rest(day);
        }
        due("7 over the rest days", far.run(ALL), 300);
        due("7 over the rest days, at", far.at(0, 250), 150);
        far.bar(0, 150, 251);
        due("7 one day later", far.run(ALL), 301);
        far.season(0, 0, 299);
        due("7 the season ends before", far.run(ALL), BAD);
    }

    private static void most() {
        PlaceTimePlans plans = new PlaceTimePlans();
        plans.crew(1);
        plans.crew(1);
        plans.crew(2);
        plans.work(0, 0, 10, 5, false);
        plans.work(1, 0, 10, 5, false);
        plans.work(2, 0, 10, 5, false);
        due("8 at first", plans.run(ALL), 2);
        due("8 one of a kind", plans.most(1, 1), 4);
        due("8 plan is gone", plans.count(5), BAD);
        due("8 one behind the other", plans.run(ALL), 4);
        due("8 the other kind does not wait", plans.told(2, 0), 0);
        due("8 two", plans.most(1, 2), 1);
        due("8 two, end", plans.run(ALL), 2);
        due("8 none", plans.most(1, 0), 2);
        due("8 none, end", plans.run(ALL), BAD);
        due("8 none is no rule of a work", plans.lone(0), BAD);
        due("8 six", plans.most(1, 6), 0);
        due("8 seven", plans.most(1, 7), BAD);
        due("8 -1", plans.most(1, -1), BAD);
        due("8 kind 4", plans.most(4, 1), BAD);
        due("8 kind -1", plans.most(-1, 1), BAD);
        due("8 it was six", plans.most(1, 6), 6);
        due("8 other kinds", plans.most(0, 4), 4);
    }

    private static void learned() {
        PlaceTimePlans plans = withWork(5, false);
        plans.run(ALL);
        due("9 cut off", plans.learned(0, 11, 3), 3);
        due("9 plan is gone", plans.count(5), BAD);
        due("9 its days", plans.run(ALL), 4);
        due("9 1 at the least", plans.learned(0, 1, 1000), 1);
        due("9 10 days", plans.run(ALL), 10);
        due("9 50 at the most", plans.learned(0, 10000, 1), 50);
        due("9 51", plans.learned(0, 51, 1), 50);
        due("9 places 0", plans.learned(0, 0, 1), BAD);
        due("9 places 10001", plans.learned(0, 10001, 1000), BAD);
        due("9 days 0", plans.learned(0, 1, 0), BAD);
        due("9 days 1001", plans.learned(0, 1, 1001), BAD);
        due("9 no work", plans.learned(1, 1, 1), BAD);
        due("9 work -1", plans.learned(-1, 1, 1), BAD);
    }

    private static void run() {
        PlaceTimePlans plans = new PlaceTimePlans();
        due("10 no works", plans.run(5), BAD);
        plans.crew(0);
        plans.work(0, 0, 10, 5, true);
        due("10 0 tries", plans.run(0), BAD);
        due("10 20001 tries", plans.run(20001), BAD);
        due("10 refused ones do nothing", plans.tried(), 0);
        due("10 20000 tries", plans.run(20000), 2);
        due("10 the first one of as many days", plans.told(0, 2), 0);
        plans.late(0, 100);
        due("10 no plan", plans.run(20000), BAD);
        due("10 the one at hand stays", plans.count(5), 2);
        due("10 but its tries are told", plans.tried(), 200);
        PlaceTimePlans slow = withTwoWorks(10, 10);
        slow.after(0, 1, 0);
        slow.season(0, 1, 999);
        due("10 1 try", slow.run(1), BAD);
        due("10 3 tries", slow.run(3), BAD);
        // Work 0 on day 0, and on day 1; work 1 on days 0 and 1.
        due("10 4 tries", slow.run(4), 2);
    }

    private static void runOneCrew() {
        PlaceTimePlans plans = withCrews(1);
        plans.work(0, 0, 10, 5, false);
        plans.work(0, 100, 110, 4, false);
        due("10 one crew", plans.run(ALL), 5);
        due("10 the first work first", plans.told(1, 0), 2);
        plans.season(0, 1, 999);
        // Found first is work 1 behind work 0, END 6; with work 1 before it the END is 5.
        due("10 the second work first", plans.run(ALL), 5);
        due("10 start of the first work", plans.told(0, 0), 3);
        due("10 start of the second work", plans.told(1, 0), 0);
    }

    private static void provedAndTried() {
        PlaceTimePlans plans = withWork(5, false);
        due("11 none", plans.proved(), false);
        due("12 none", plans.tried(), 0);
        plans.run(99);
        due("11 one try is left", plans.proved(), false);
        due("12 99", plans.tried(), 99);
        plans.run(100);
        due("11 the last try that there was", plans.proved(), true);
        due("12 100", plans.tried(), 100);
        plans.run(0);
        plans.replan(0);
        due("11 refused", plans.proved(), true);
        due("12 refused", plans.tried(), 100);
        plans.run(1);
        due("11 not proved any more", plans.proved(), false);
        plans.run(ALL);
        due("11 ended before", plans.proved(), true);
        due("12 ended before", plans.tried(), 100);
        plans.crew(0);
        due("11 stays when something is told", plans.proved(), true);
        due("12 stays when something is told", plans.tried(), 100);
        PlaceTimePlans two = withTwoWorks(5, 5);
        due("12 two works", two.run(ALL), 2);
        // 100 of work 1 behind the first try of work 0; behind the other 99 none goes on.
        due("12 two works, tries", two.tried(), 200);
        two.season(1, 0, 0);
        due("12 no plan", two.run(ALL), BAD);
        due("12 all tries", two.tried(), 100 + 100 * 100);
        due("11 no plan, proved", two.proved(), true);
        due("12 no plan, one less", two.run(10099), BAD);
        due("11 no plan, not proved", two.proved(), false);
        two.season(1, 0, 999);
        two.run(ALL);
        two.replan(7);
        due("12 of a replan", two.tried(), 7);
        due("11 of a replan", two.proved(), false);
    }

    private static void told() {
        PlaceTimePlans plans = withWork(4, true);
        due("13 no plan", plans.told(0, 0), BAD);
        plans.bar(0, 0, 2);
        plans.run(ALL);
        due("13 start", plans.told(0, 0), 0);
        due("13 end", plans.told(0, 1), 3);
        due("13 way", plans.told(0, 2), 1);
        due("13 what 3", plans.told(0, 3), BAD);
        due("13 what -1", plans.told(0, -1), BAD);
        due("13 no work", plans.told(1, 0), BAD);
        due("13 work -1", plans.told(-1, 0), BAD);
    }

    /** Backward from 20 to 10 on the days 0, 2 and 3. */
    private static PlaceTimePlans goingBack() {
        PlaceTimePlans plans = withCrews(1);
        plans.work(0, 10, 20, 4, true);
        plans.bar(0, 10, 2);
        plans.rest(1);
        plans.run(ALL);
        return plans;
    }

    private static void at() {
        PlaceTimePlans plans = goingBack();
        int[] places = {20, 16, 16, 12, 10, 10};
        for (int day = 0; day < places.length; day++) {
            due("14 backward, day " + day, plans.at(0, day), places[day]);
        }
        due("14 far on", plans.at(0, Integer.MAX_VALUE), 10);
        due("14 day -1", plans.at(0, -1), BAD);
        due("14 no work", plans.at(1, 0), BAD);
        due("14 work -1", plans.at(-1, 0), BAD);
        plans.season(0, 3, 999);
        due("14 no plan", plans.at(0, 0), BAD);
        plans.run(ALL);
        int[] forward = {10, 10, 10, 10, 14, 18, 20, 20};
        for (int day = 0; day < forward.length; day++) {
            due("14 forward, day " + day, plans.at(0, day), forward[day]);
        }
    }

    private static void duePass(PlaceTimePlans plans, int place, boolean leaves, int upper, int lower) {
        due("15 upper, place " + place + (leaves ? ", leaves" : ""), plans.passes(0, place, leaves, 0), upper);
        due("15 lower, place " + place + (leaves ? ", leaves" : ""), plans.passes(0, place, leaves, 1), lower);
    }

    private static void passes() {
        PlaceTimePlans plans = goingBack();
        duePass(plans, 20, false, 0, 1);
        duePass(plans, 20, true, 0, 1);
        duePass(plans, 19, false, 1, 4);
        duePass(plans, 18, true, 1, 2);
        duePass(plans, 16, false, 1, 1);
        duePass(plans, 16, true, 2, 1);
        duePass(plans, 14, false, 5, 2);
        duePass(plans, 12, false, 3, 1);
        duePass(plans, 12, true, 3, 1);
        duePass(plans, 11, false, 13, 4);
        duePass(plans, 10, false, 7, 2);
        duePass(plans, 10, true, 7, 2);
        due("15 place 9", plans.passes(0, 9, false, 0), BAD);
        due("15 place 21", plans.passes(0, 21, false, 0), BAD);
        due("15 part 2", plans.passes(0, 15, false, 2), BAD);
        due("15 part -1", plans.passes(0, 15, false, -1), BAD);
        due("15 no work", plans.passes(1, 15, false, 0), BAD);
        due("15 work -1", plans.passes(-1, 15, false, 0), BAD);
        plans.crew(0);
        due("15 no plan", plans.passes(0, 15, false, 0), BAD);
    }

    private static void crosses() {
        PlaceTimePlans plans = withCrews(2);
        plans.work(0, 0, 20, 5, false);
        plans.work(1, 0, 20, 10, false);
        plans.season(1, 1, 999);
        due("16 no plan", plans.crosses(0, 1), false);
        due("16 end", plans.run(ALL), 4);
        due("16 start", plans.told(1, 0), 1);
        due("16 overtaken", plans.crosses(0, 1), true);
        due("16 either way", plans.crosses(1, 0), true);
        due("16 itself", plans.crosses(0, 0), false);
        due("16 no work", plans.crosses(0, 2), false);
        due("16 work -1", plans.crosses(-1, 0), false);
        PlaceTimePlans touching = withCrews(2);
        touching.work(0, 0, 20, 5, false);
        touching.work(1, 0, 10, 10, false);
        touching.season(1, 1, 1);
        touching.run(ALL);
        due("16 both at once at their last shared place", touching.crosses(0, 1), false);
        due("16 both at once, either way", touching.crosses(1, 0), false);
        PlaceTimePlans barely = withCrews(2);
        barely.work(0, 0, 11, 5, false);
        barely.work(1, 0, 11, 10, false);
        barely.season(1, 1, 2);
        barely.run(ALL);
        // The second one comes to 10 with the first one, at 2, and to 11 at 21/10, the first one at 11/5.
        due("16 at the last place alone", barely.crosses(0, 1), true);
        PlaceTimePlans resting = withCrews(2);
        resting.work(0, 0, 8, 4, false);
        resting.work(1, 4, 8, 8, false);
        resting.rest(1);
        resting.season(1, 2, 999);
        resting.run(ALL);
        // At place 4 the first one arrives at 1 and leaves with the other one at 2; arriving is what counts.
        due("16 by arriving", resting.crosses(0, 1), true);
        due("16 by arriving, either way", resting.crosses(1, 0), true);
        PlaceTimePlans meeting = withCrews(2);
        meeting.work(0, 0, 10, 5, false);
        meeting.work(1, 0, 10, 5, true);
        meeting.bar(1, 0, 2);
        meeting.run(ALL);
        due("16 they meet", meeting.crosses(0, 1), true);
    }

    private static void under() {
        PlaceTimePlans plans = new PlaceTimePlans();
        plans.crew(1);
        plans.crew(1);
        plans.work(0, 0, 10, 5, false);
        plans.work(1, 0, 10, 4, false);
        due("17 no plan", plans.under(1, 0), BAD);
        plans.rest(1);
        plans.run(ALL);
        int[] many = {2, 0, 2, 1, 0};
        for (int day = 0; day < many.length; day++) {
            due("17 day " + day, plans.under(1, day), many[day]);
        }
        due("17 far on", plans.under(1, Integer.MAX_VALUE), 0);
        due("17 another kind", plans.under(0, 0), 0);
        due("17 kind 4", plans.under(4, 0), BAD);
        due("17 kind -1", plans.under(-1, 0), BAD);
        due("17 day -1", plans.under(1, -1), BAD);
    }

    private static void bound() {
        PlaceTimePlans plans = withCrews(2);
        due("18 no works", plans.bound(), 0);
        plans.work(0, 0, 10, 4, false);
        due("18 cut up", plans.bound(), 3);
        plans.work(1, 0, 10, 5, false);
        due("18 the greatest crew", plans.bound(), 3);
        plans.work(1, 0, 10, 5, false);
        due("18 together", plans.bound(), 4);
        plans.rest(0);
        due("18 working days alone", plans.bound(), 4);
        plans.learned(0, 1, 1);
        due("18 by the speed learned", plans.bound(), 10);
    }

    private static void lone() {
        PlaceTimePlans plans = withTwoWorks(5, 5);
        plans.work(0, 0, 10, 1, true);
        due("19 none", plans.lone(0), BAD);
        plans.season(0, 0, 0);
        plans.season(2, 5, 14);
        due("19 first", plans.lone(0), 0);
        due("19 no second", plans.lone(1), BAD);
        plans.bar(2, 0, 6);
        due("19 backward it can", plans.lone(1), BAD);
        plans.bar(2, 10, 6);
        due("19 second", plans.lone(1), 2);
        due("19 no third", plans.lone(2), BAD);
        due("19 -1", plans.lone(-1), BAD);
        PlaceTimePlans forward = withWork(1, true);
        forward.season(0, 5, 14);
        forward.bar(0, 10, 6);
        due("19 forward it can", forward.lone(0), BAD);
        PlaceTimePlans late = withWork(5, false);
        late.run(ALL);
        late.late(0, 99);
        due("19 by late, the last start", late.lone(0), BAD);
        late.late(0, 100);
        due("19 by late", late.lone(0), 0);
    }

    private static void late() {
        PlaceTimePlans plans = withTwoWorks(5, 5);
        due("20 no plan", plans.late(0, 1), false);
        plans.season(1, 3, 999);
        plans.run(ALL);
        due("20 -1 days", plans.late(1, -1), false);
        due("20 101 days", plans.late(1, 101), false);
        due("20 no work", plans.late(2, 1), false);
        due("20 work -1", plans.late(-1, 1), false);
        due("20 the plan stays", plans.late(1, 4) ? plans.count(5) : BAD, 5);
        due("20 from its start on", plans.run(ALL), 9);
        due("20 start", plans.told(1, 0), 7);
        due("20 0 days", plans.late(1, 0), true);
        due("20 0 days, end", plans.run(ALL), 9);
        due("20 100 days", plans.late(1, 100), true);
        due("20 100 days, no plan", plans.replan(ALL), BAD);
        due("20 told again", plans.late(1, 1), true);
        due("20 told again, end", plans.run(ALL), 10);
    }

    private static void freeze() {
        PlaceTimePlans plans = withTwoWorks(5, 5);
        due("21 no plan", plans.freeze(1), BAD);
        plans.season(1, 3, 999);
        plans.run(ALL);
        due("21 day -1", plans.freeze(-1), BAD);
        due("21 before day 0", plans.freeze(0), 0);
        due("21 before day 3", plans.freeze(3), 1);
        due("21 before day 4", plans.freeze(4), 2);
        due("21 others are not any more", plans.freeze(3), 1);
        due("21 counted", plans.count(4), 1);
        due("21 end", plans.run(ALL), 5);
        due("21 one try of the frozen one", plans.tried(), 101);
        plans.late(0, 1);
        due("21 frozen and late can't be", plans.run(ALL), BAD);
        due("21 one try", plans.tried(), 1);
        due("21 one try, proved", plans.proved(), true);
        due("21 far on", plans.freeze(Integer.MAX_VALUE), 2);
        PlaceTimePlans back = goingBack();
        back.freeze(1);
        due("21 its way, too", back.run(ALL), 4);
        due("21 its way, tried", back.tried(), 1);
        due("21 its way, told", back.told(0, 2), 1);
    }

    private static void replan() {
        PlaceTimePlans plans = withCrews(1);
        plans.work(0, 0, 10, 5, false);
        plans.work(0, 0, 10, 5, false);
        due("22 no plan", plans.replan(ALL), BAD);
        due("22 no plan, no tries", plans.tried(), 0);
        plans.run(ALL);
        due("22 0 tries", plans.replan(0), BAD);
        due("22 20001 tries", plans.replan(20001), BAD);
        due("22 nothing to move", plans.replan(ALL), 0);
        plans.late(0, 1);
        // Moving both would end on day 5 or 4; moving work 0 alone leads behind work 1.
        due("22 the fewest works", plans.replan(ALL), 1);
        due("22 start of the moved one", plans.told(0, 0), 4);
        due("22 start of the other one", plans.told(1, 0), 2);
        due("22 end", plans.count(5), 6);
        due("22 a run looks at the end", plans.run(ALL), 4);
        plans.late(0, 100);
        due("22 none was found", plans.replan(ALL), BAD);
        due("22 it stays", plans.count(5), 4);
        due("22 its tries", plans.tried(), 100);
        PlaceTimePlans back = goingBack();
        back.late(0, 2);
        due("22 again", back.replan(ALL), 1);
        due("22 again, forward", back.told(0, 2), 0);
        due("22 again, start", back.told(0, 0), 2);
    }

    private static void replanWithSoonerEnd() {
        PlaceTimePlans plans = withCrews(1);
        plans.work(0, 0, 15, 5, false);
        plans.work(0, 0, 10, 5, false);
        plans.season(0, 0, 6);
        due("22 first plan", plans.run(ALL), 5);
        plans.late(0, 1);
        // Found first is work 0 on day 1 with work 1 behind it, END 6; as many are moved with work 1 before it, END 5.
        due("22 as many moved", plans.replan(ALL), 2);
        due("22 as many moved, sooner", plans.count(5), 5);
        due("22 as many moved, start", plans.told(0, 0), 2);
        due("22 as many moved, start of the other one", plans.told(1, 0), 0);
        PlaceTimePlans order = withTwoWorks(5, 10);
        order.after(1, 0, 0);
        due("22 order", order.run(ALL), 2);
        order.late(1, 3);
        due("22 order, both moved", order.replan(ALL), 2);
        due("22 order, end", order.count(5), 5);
        due("22 order, start", order.told(1, 0), 3);
    }

    private static void moved() {
        PlaceTimePlans plans = withTwoWorks(5, 4);
        plans.run(ALL);
        due("23 no replan", plans.moved(0), false);
        plans.late(0, 1);
        plans.replan(ALL);
        due("23 moved", plans.moved(0), true);
        due("23 not moved", plans.moved(1), false);
        due("23 no work", plans.moved(2), false);
        due("23 work -1", plans.moved(-1), false);
        plans.late(0, 100);
        plans.replan(ALL);
        due("23 a replan that found none", plans.moved(0), true);
        plans.run(ALL);
        due("23 a run that found none", plans.moved(0), true);
        plans.late(0, 0);
        plans.run(ALL);
        due("23 another plan at hand", plans.moved(0), false);
        plans.late(0, 1);
        plans.replan(ALL);
        due("23 moved again", plans.moved(0), true);
        plans.replan(ALL);
        due("23 the last replan moved none", plans.moved(0), false);
        plans.late(0, 1);
        plans.replan(ALL);
        plans.rest(150);
        due("23 no plan", plans.moved(0), false);
        plans.run(ALL);
        due("23 a new plan", plans.moved(0), false);
    }

    private static void slack() {
        PlaceTimePlans plans = withTwoWorks(5, 2);
        due("24 no plan", plans.slack(0), BAD);
        plans.run(ALL);
        due("24 up to the END", plans.slack(0), 3);
        due("24 none", plans.slack(1), 0);
        due("24 no work", plans.slack(2), BAD);
        due("24 work -1", plans.slack(-1), BAD);
        plans.rest(2);
        plans.run(ALL);
        due("24 rest days do not count", plans.slack(0), 3);
        PlaceTimePlans far = withCrews(2);
        far.work(0, 0, 200, 1, false);
        far.work(1, 0, 10, 10, false);
        far.run(ALL);
        due("24 no start above 99", far.slack(1), 99);
        due("24 the plan stays", far.told(1, 0), 0);
        far.freeze(1);
        due("24 frozen is no rule", far.slack(1), 99);
    }

    private static void slackByRules() {
        PlaceTimePlans plans = withCrews(2);
        plans.work(0, 0, 10, 10, false);
        plans.work(0, 0, 10, 10, false);
        plans.work(1, 0, 10, 2, false);
        plans.run(ALL);
        due("24 one by one: the crew is at work", plans.slack(0), 0);
        due("24 behind the crew's other work", plans.slack(1), 3);
        plans.season(1, 0, 2);
        plans.run(ALL);
        due("24 by its season", plans.slack(1), 1);
        plans.late(1, 2);
        due("24 by late", plans.slack(1), 0);
        PlaceTimePlans order = withTwoWorks(10, 2);
        order.after(0, 1, 0);
        order.run(ALL);
        due("24 by the work behind", order.slack(0), 0);
        PlaceTimePlans kind = new PlaceTimePlans();
        kind.crew(0);
        kind.crew(0);
        kind.crew(1);
        kind.work(0, 0, 10, 10, false);
        kind.work(1, 0, 10, 10, false);
        kind.work(2, 0, 10, 2, false);
        kind.most(0, 1);
        kind.season(1, 3, 999);
        kind.run(ALL);
        due("24 by most", kind.slack(0), 2);
        due("24 of the other one", kind.slack(1), 1);
    }

    private static void odds() {
        PlaceTimePlans plans = withWork(5, false);
        due("25 no plan", plans.odds(5, 1, 0, 1), BAD);
        plans.run(ALL);
        due("25 no wet days", plans.odds(2, 50, 0, 1), 50);
        due("25 no wet days, too soon", plans.odds(1, 50, 0, 1), 0);
        // From seed 1 the days 0 and on draw 38, 58, 13, 15, 51, 27, 10, 19, 12, 86.
        due("25 wet, too soon", plans.odds(4, 1, 40, 1), 0);
        due("25 dry on days 1 and 4", plans.odds(5, 1, 40, 1), 1);
        due("25 38 is not below 38", plans.odds(2, 1, 38, 1), 1);
        due("25 38 is below 39", plans.odds(2, 1, 39, 1), 0);
        plans.rest(4);
        plans.run(ALL);
        due("25 rest days, too, too soon", plans.odds(9, 1, 40, 1), 0);
        due("25 rest days, too", plans.odds(10, 1, 40, 1), 1);
        plans.late(0, 2);
        plans.run(ALL);
        // Starts on day 2; dry working days from there on are 9 and one behind it.
        due("25 from its start on", plans.odds(10, 1, 40, 1), 0);
        due("25 day -1", plans.odds(-1, 1, 40, 1), BAD);
        due("25 day 0", plans.odds(0, 1, 40, 1), 0);
        due("25 0 draws", plans.odds(5, 0, 40, 1), BAD);
        due("25 51 draws", plans.odds(5, 51, 40, 1), BAD);
        due("25 chance -1", plans.odds(5, 1, -1, 1), BAD);
        due("25 chance 91", plans.odds(5, 1, 91, 1), BAD);
        due("25 chance 90", plans.odds(Integer.MAX_VALUE, 50, 90, Integer.MIN_VALUE), 50);
        due("25 the plan stays", plans.told(0, 0), 2);
        PlaceTimePlans longer = withCrews(1);
        longer.work(0, 0, 200, 1, false);
        longer.run(ALL);
        due("25 behind day 399 no day is wet", longer.odds(600, 50, 90, 3), 50);
        due("25 but many before", longer.odds(500, 50, 90, 3), 0);
    }

    private static void count() {
        PlaceTimePlans plans = withTwoWorks(5, 5);
        plans.rest(50);
        plans.rest(51);
        plans.rest(51);
        plans.bar(0, 5, 1);
        plans.season(0, 1, 999);
        plans.run(ALL);
        plans.freeze(1);
        int[] many = {2, 2, 2, 1, 1, 3};
        for (int what = 0; what < many.length; what++) {
            due("26 count " + what, plans.count(what), many[what]);
        }
        due("26 another number", plans.count(6), BAD);
        due("26 -1", plans.count(-1), BAD);
    }

    /** What is told up to learned() takes the plan, what is frozen and what is late; what is refused does not. */
    private static void toldAgain() {
        for (int which = 0; which < 8; which++) {
            PlaceTimePlans plans = withTwoWorks(5, 5);
            plans.run(ALL);
            plans.freeze(1);
            plans.late(0, 9);
            tell(plans, which, true);
            due("2 refused, plan, " + which, plans.count(5), 2);
            due("2 refused, frozen, " + which, plans.count(4), 2);
            due("2 refused, late, " + which, plans.run(ALL), BAD);
            tell(plans, which, false);
            due("2 told, plan, " + which, plans.count(5), BAD);
            due("2 told, frozen, " + which, plans.count(4), 0);
            plans.run(ALL);
            due("2 told, late, " + which, plans.told(0, 0), 0);
        }
    }

    private static void tell(PlaceTimePlans plans, int which, boolean refused) {
        int work = refused ? 9 : 1;
        switch (which) {
            case 0: plans.crew(work); break;
            case 1: plans.work(work, 0, 10, 5, false); break;
            case 2: plans.after(0, work, 1); break;
            case 3: plans.season(work, 0, 99); break;
            case 4: plans.bar(work, 5, 0); break;
            case 5: plans.rest(refused ? 200 : 199); break;
            case 6: plans.most(work, 4); break;
            default: plans.learned(work, 5, 1);
        }
    }
}
