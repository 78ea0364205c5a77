import java.math.BigInteger;

/** The sentences of promises 10 to 26: plans that are searched, asked for, held and made again. */
final class AskedBoundaries {
    private static final int BAD = Twins.BAD;
    private static final int NO = Twins.NO;
    private static final int ALL = Twins.ALL;

    private AskedBoundaries() {
    }

    static void all() {
        run();
        runRefused();
        proved();
        provedWithout();
        tried();
        told();
        toldRefused();
        at();
        atRefused();
        passes();
        passesRefused();
        crosses();
        crossesRefused();
        under();
        underRefused();
        bound();
        lone();
        loneRefused();
        late();
        lateRefused();
        freeze();
        freezeRefused();
        replan();
        replanRefused();
        moved();
        movedRefused();
        slackByPlaces();
        slackByRules();
        slackRefused();
        oddsByDraws();
        oddsRoundTheSeed();
        oddsOfWorks();
        oddsRefused();
        count();
        countRefused();
    }

    private static void run() {
        Sentences.of("Searches with so many tries (1 .. 20,000): the END of the best plan, which is at hand then.");
        PlaceTimePlans plans = Twins.one(10, 5, false);
        Sentences.due("1 try", plans.run(1), 2);
        Sentences.due("1 try, at hand", plans.count(5), 2);
        Sentences.due("20,000 tries", plans.run(20000), 2);
        PlaceTimePlans many = Twins.crews(4);
        for (int work = 0; work < 3; work++) {
            many.work(work, 0, 10, 10, true);
        }
        many.work(3, 0, 10, 5, false);
        many.season(3, 0, 0);
        Sentences.due("more than 20,000 are there", many.run(20000), BAD);
        Sentences.due("20,000 were done", many.tried(), 20000);
        PlaceTimePlans next = Twins.twoOfOneCrew(5, 4);
        next.season(0, 1, 999);
        Sentences.due("the best of few tries", next.run(50), 6);
        Sentences.due("the best of all", next.run(ALL), 5);
        Sentences.due("at hand then", next.told(1, 0), 0);
        Sentences.due("again with few tries", next.run(50), 6);
        Sentences.due("that one is at hand then", next.told(1, 0), 3);
    }

    private static void runRefused() {
        Sentences.of("BAD: no such number; no works; no plan was found (the one at hand stays).");
        Twins.range("tries", Twins::onePlanned, (plans, tries) -> plans.run(tries), 1, 20000, BAD);
        for (int tries = 0; tries < 20002; tries += 20001) {
            int number = tries;
            Twins.refused("tries " + number, Twins::held, plans -> plans.run(number), BAD);
            Twins.refused("tries " + number + ", made again", Twins::again, plans -> plans.run(number), BAD);
            Twins.refused("tries " + number + ", no plan", Twins::told, plans -> plans.run(number), BAD);
        }
        Twins.refused("no works", Twins::empty, plans -> plans.run(5), BAD);
        Twins.refused("no works, but crews", Twins::fourCrews, plans -> plans.run(20000), BAD);
        PlaceTimePlans none = Twins.one(10, 5, false);
        none.season(0, 0, 0);
        Sentences.due("no plan was found", none.run(ALL), BAD);
        Sentences.due("none is at hand", none.count(5), BAD);
        Sentences.due("none is at hand, start", none.told(0, 0), BAD);
        PlaceTimePlans stays = Twins.two(5, 5);
        stays.run(ALL);
        stays.late(1, 4);
        stays.replan(ALL);
        stays.late(0, 100);
        stays.freeze(3);
        Sentences.due("no plan was found behind one", stays.run(ALL), BAD);
        Sentences.due("its END", stays.count(5), 6);
        Sentences.due("its start", stays.told(1, 0), 4);
        Sentences.due("what is frozen", stays.count(4), 1);
        Sentences.due("what was moved", stays.moved(1), true);
        PlaceTimePlans few = Twins.two(5, 5);
        few.run(ALL);
        Sentences.due("too few tries", few.run(1), BAD);
        Sentences.due("too few tries, END", few.count(5), 2);
    }

    private static void proved() {
        Sentences.of("Whether the last run() or replan() that was not refused is proved.");
        PlaceTimePlans plans = Twins.one(10, 5, false);
        plans.run(100);
        Sentences.due("a run", plans.proved(), true);
        plans.run(99);
        Sentences.due("a run that is cut off", plans.proved(), false);
        plans.run(0);
        plans.run(20001);
        plans.replan(0);
        Sentences.due("refused behind a run that is cut off", plans.proved(), false);
        plans.replan(100);
        Sentences.due("a replan", plans.proved(), true);
        plans.run(0);
        plans.replan(20001);
        Sentences.due("refused behind a replan", plans.proved(), true);
        plans.replan(99);
        Sentences.due("a replan that is cut off", plans.proved(), false);
        plans.late(0, 100);
        Sentences.due("none was found", plans.run(100), BAD);
        Sentences.due("none was found, and that is proved", plans.proved(), true);
        plans.replan(99);
        Sentences.due("none was found, cut off", plans.proved(), false);
        plans.replan(100);
        plans.rest(50);
        Sentences.due("something is told", plans.proved(), true);
        Sentences.due("refused without a plan", plans.replan(100), BAD);
        Sentences.due("refused without a plan, proved", plans.proved(), true);
        Twins.changesNothing("asking", Twins::cutOff, asked -> Twins.bit(asked.proved()));
    }

    private static void provedWithout() {
        Sentences.of("False also: there was none.");
        PlaceTimePlans plans = new PlaceTimePlans();
        Sentences.due("a new object", plans.proved(), false);
        plans.run(100);
        Sentences.due("a refused one, no works", plans.proved(), false);
        plans.crew(0);
        plans.work(0, 0, 10, 5, false);
        plans.run(0);
        plans.replan(100);
        Sentences.due("refused ones, no number and no plan", plans.proved(), false);
        plans.run(100);
        Sentences.due("there was one", plans.proved(), true);
    }

    private static void tried() {
        Sentences.of("How many tries the last run() or replan() that was not refused did (0 without).");
        PlaceTimePlans plans = Twins.one(10, 5, true);
        Sentences.due("without", plans.tried(), 0);
        plans.run(0);
        plans.run(20001);
        plans.replan(5);
        Sentences.due("refused ones", plans.tried(), 0);
        plans.run(1);
        Sentences.due("1", plans.tried(), 1);
        plans.run(199);
        Sentences.due("199", plans.tried(), 199);
        plans.run(200);
        Sentences.due("200", plans.tried(), 200);
        plans.run(201);
        Sentences.due("no more than there are", plans.tried(), 200);
        plans.replan(7);
        Sentences.due("of a replan", plans.tried(), 7);
        plans.run(-1);
        plans.replan(0);
        plans.replan(20001);
        Sentences.due("refused behind a replan", plans.tried(), 7);
        plans.late(0, 100);
        plans.replan(9);
        Sentences.due("none was found", plans.tried(), 9);
        plans.crew(0);
        Sentences.due("something is told", plans.tried(), 9);
        plans.replan(50);
        Sentences.due("refused without a plan", plans.tried(), 9);
        Sentences.due("a new object", new PlaceTimePlans().tried(), 0);
        Twins.changesNothing("asking", Twins::cutOff, asked -> asked.tried());
    }

    private static void told() {
        Sentences.of("Of the plan at hand, of a work: 0 its start, 1 its end, 2 its way (0 forward, 1 backward).");
        PlaceTimePlans back = Twins.goingBack();
        Sentences.due("start", back.told(0, 0), 0);
        Sentences.due("end", back.told(0, 1), 4);
        Sentences.due("backward", back.told(0, 2), 1);
        PlaceTimePlans last = Twins.one(200, 1, true);
        last.season(0, 99, 999);
        last.run(ALL);
        Sentences.due("start 99", last.told(0, 0), 99);
        Sentences.due("end 299", last.told(0, 1), 299);
        Sentences.due("forward", last.told(0, 2), 0);
        Twins.changesNothing("asking", Twins::again, plans -> plans.told(1, 1));
    }

    private static void toldRefused() {
        Sentences.of("BAD: none such.");
        Twins.range("work", Twins::again, (plans, work) -> plans.told(work, 1), 0, 2, BAD);
        Twins.range("work of six", Twins::full, (plans, work) -> plans.told(work, 0), 0, 5, BAD);
        Twins.range("what", Twins::again, (plans, what) -> plans.told(1, what), 0, 2, BAD);
        for (int what = 0; what < 3; what++) {
            int asked = what;
            Twins.refused("no plan, " + what, Twins::told, plans -> plans.told(0, asked), BAD);
            Twins.refused("a new object, " + what, Twins::empty, plans -> plans.told(0, asked), BAD);
        }
    }

    private static void at() {
        Sentences.of("Where a work is at the beginning of a day by the plan at hand: before its start its first place, from "
                + "its end on its last one.");
        PlaceTimePlans plans = Twins.crews(1);
        plans.work(0, 10, 20, 4, true);
        plans.season(0, 3, 999);
        plans.rest(4);
        plans.run(ALL);
        // Days 3, 5 and 6.
        int[] places = {10, 10, 10, 10, 14, 14, 18, 20, 20};
        for (int day = 0; day < places.length; day++) {
            Sentences.due("forward, day " + day, plans.at(0, day), places[day]);
        }
        Sentences.due("forward, the last day", plans.at(0, Integer.MAX_VALUE), 20);
        plans.bar(0, 10, 5);
        plans.run(ALL);
        Sentences.due("backward", plans.told(0, 2), 1);
        int[] placesBack = {20, 20, 20, 20, 16, 16, 12, 10, 10};
        for (int day = 0; day < placesBack.length; day++) {
            Sentences.due("backward, day " + day, plans.at(0, day), placesBack[day]);
        }
        Sentences.due("backward, the last day", plans.at(0, Integer.MAX_VALUE), 10);
        PlaceTimePlans longest = Twins.one(200, 1, false);
        longest.season(0, 99, 999);
        for (int day = 100; day < 200; day++) {
            longest.rest(day);
        }
        longest.run(ALL);
        int[] days = {98, 99, 100, 199, 200, 201, 397, 398, 399, 400};
        int[] far = {0, 0, 1, 1, 1, 2, 198, 199, 200, 200};
        for (int which = 0; which < days.length; which++) {
            Sentences.due("over day 199, day " + days[which], longest.at(0, days[which]), far[which]);
        }
        Twins.changesNothing("asking", Twins::again, asked -> asked.at(1, 4));
    }

    private static void atRefused() {
        Sentences.of("BAD: none such, a day below 0.");
        Twins.range("work", Twins::again, (plans, work) -> plans.at(work, 5), 0, 2, BAD);
        Twins.range("work of six", Twins::full, (plans, work) -> plans.at(work, 0), 0, 5, BAD);
        Twins.range("day", Twins::again, (plans, day) -> plans.at(1, day), 0, Integer.MAX_VALUE, BAD);
        Twins.refused("no plan", Twins::told, plans -> plans.at(0, 0), BAD);
        Twins.refused("a new object", Twins::empty, plans -> plans.at(0, 0), BAD);
    }

    private static void passes() {
        Sentences.of("When a work arrives at a place (leaves false) or leaves it, by the plan at hand: part 0 the upper, 1 "
                + "the lower one, in least terms.");
        PlaceTimePlans plans = Twins.one(30, 12, false);
        plans.rest(1);
        plans.run(ALL);
        // Days 0, 2 and 3.
        int[] place = {0, 1, 2, 3, 4, 6, 8, 9, 11, 12, 13, 18, 24, 27, 30};
        int[] upper = {0, 1, 1, 1, 1, 1, 2, 3, 11, 1, 25, 5, 3, 13, 7};
        int[] lower = {1, 12, 6, 4, 3, 2, 3, 4, 12, 1, 12, 2, 1, 4, 2};
        for (int which = 0; which < place.length; which++) {
            Sentences.due("upper of " + place[which], plans.passes(0, place[which], false, 0), upper[which]);
            Sentences.due("lower of " + place[which], plans.passes(0, place[which], false, 1), lower[which]);
        }
        Sentences.due("leaves at the next working day, upper", plans.passes(0, 12, true, 0), 2);
        Sentences.due("leaves at the next working day, lower", plans.passes(0, 12, true, 1), 1);
        Sentences.due("leaves on the way, upper", plans.passes(0, 13, true, 0), 25);
        Sentences.due("leaves its last place, upper", plans.passes(0, 30, true, 0), 7);
        Sentences.due("leaves its last place, lower", plans.passes(0, 30, true, 1), 2);
        PlaceTimePlans slow = Twins.one(200, 1, false);
        slow.season(0, 99, 999);
        slow.run(ALL);
        Sentences.due("far on, upper", slow.passes(0, 200, false, 0), 299);
        Sentences.due("far on, lower", slow.passes(0, 200, false, 1), 1);
        Twins.changesNothing("asking", Twins::again, asked -> asked.passes(1, 16, true, 0));
    }

    private static void passesRefused() {
        Sentences.of("BAD: none such; it does not come there.");
        Twins.range("work", Twins::again, (plans, work) -> plans.passes(work, 16, false, 0), 0, 2, BAD);
        for (int leaves = 0; leaves < 2; leaves++) {
            boolean leaving = leaves == 1;
            Twins.range("place of work 0", Twins::again, (plans, place) -> plans.passes(0, place, leaving, 0), 10, 20,
                    BAD);
            Twins.range("place of work 1", Twins::again, (plans, place) -> plans.passes(1, place, leaving, 1), 0, 30,
                    BAD);
            Twins.range("place of work 2", Twins::again, (plans, place) -> plans.passes(2, place, leaving, 1), 15, 25,
                    BAD);
            Twins.range("part", Twins::again, (plans, part) -> plans.passes(1, 16, leaving, part), 0, 1, BAD);
            Twins.refused("no plan", Twins::told, plans -> plans.passes(0, 16, leaving, 0), BAD);
            Twins.refused("a new object", Twins::empty, plans -> plans.passes(0, 0, leaving, 0), BAD);
        }
    }

    /** Two works from 0 to 20; the second one starts on a day. */
    private static PlaceTimePlans following(int speed, int speedOfNext, int start) {
        PlaceTimePlans plans = Twins.crews(2);
        plans.work(0, 0, 20, speed, false);
        plans.work(1, 0, 20, speedOfNext, false);
        plans.season(0, 0, 199);
        plans.season(1, start, 199);
        plans.run(ALL);
        return plans;
    }

    private static void dueCross(String what, PlaceTimePlans plans, boolean want) {
        Sentences.due(what, plans.crosses(0, 1), want);
        Sentences.due(what + ", the other way round", plans.crosses(1, 0), want);
    }

    private static void crosses() {
        Sentences.of("Whether two works cross in the plan at hand: at some place that both come to the one arrives first, "
                + "at another one the other.");
        dueCross("all at once", following(5, 5, 0), false);
        dueCross("at once at the first place alone", following(5, 10, 0), false);
        dueCross("overtaken", following(5, 10, 1), true);
        // They come to 20 at 4 and at 2 and 2.
        dueCross("at once at the last place alone", following(5, 10, 2), false);
        dueCross("behind all the way", following(5, 10, 3), false);
        dueCross("at once at the last place alone, in a day", following(5, 20, 3), false);
        dueCross("overtaken before the last place", following(5, 21, 3), true);
        PlaceTimePlans barely = Twins.crews(2);
        barely.work(0, 0, 21, 5, false);
        barely.work(1, 0, 21, 10, false);
        barely.season(1, 2, 9);
        barely.run(ALL);
        // At once at 20, at 4; at 21 at 21/5 and 41/10.
        dueCross("at the last place alone", barely, true);
        PlaceTimePlans apart = Twins.crews(2);
        apart.work(0, 0, 10, 1, false);
        apart.work(1, 11, 20, 5, false);
        apart.run(ALL);
        dueCross("no common place", apart, false);
        PlaceTimePlans touching = Twins.crews(2);
        touching.work(0, 0, 10, 1, false);
        touching.work(1, 10, 20, 5, false);
        touching.run(ALL);
        dueCross("one common place", touching, false);
        PlaceTimePlans arriving = Twins.crews(2);
        arriving.work(0, 0, 8, 4, false);
        arriving.work(1, 4, 8, 8, false);
        arriving.rest(1);
        arriving.season(1, 2, 999);
        arriving.run(ALL);
        // At 4 the first one arrives at 1 and leaves at 2 like the other one; at 8 it is behind.
        dueCross("by arriving, not by leaving", arriving, true);
        PlaceTimePlans meeting = Twins.crews(2);
        meeting.work(0, 0, 1, 1, false);
        meeting.work(1, 0, 1, 1, true);
        meeting.bar(1, 0, 1);
        meeting.run(ALL);
        dueCross("towards each other", meeting, true);
        Twins.changesNothing("asking", Twins::again, plans -> Twins.bit(plans.crosses(0, 1)));
    }

    private static void crossesRefused() {
        Sentences.of("False also: none such.");
        int[] none = {-1, 2, 5, 6, Integer.MIN_VALUE, Integer.MAX_VALUE};
        for (int work : none) {
            Twins.refused("a " + work, Twins::crossing, plans -> Twins.bit(plans.crosses(work, 1)), NO);
            Twins.refused("b " + work, Twins::crossing, plans -> Twins.bit(plans.crosses(0, work)), NO);
        }
        Sentences.due("but these do", Twins.crossing().crosses(0, 1), true);
        for (int work = 0; work < 2; work++) {
            Sentences.due("one work, " + work, Twins.crossing().crosses(work, work), false);
        }
        Twins.refused("no plan", Twins::told, plans -> Twins.bit(plans.crosses(0, 1)), NO);
        Twins.refused("a new object", Twins::empty, plans -> Twins.bit(plans.crosses(0, 1)), NO);
        PlaceTimePlans gone = Twins.crossing();
        gone.crew(0);
        Sentences.due("the plan is gone", gone.crosses(0, 1), false);
    }

    private static void under() {
        Sentences.of("How many works of a kind are under way on a day by the plan at hand (0 on rest days).");
        PlaceTimePlans plans = Twins.ofOneKind(4);
        plans.learned(1, 5, 1);
        plans.learned(2, 2, 1);
        plans.season(2, 2, 999);
        plans.rest(1);
        plans.rest(5);
        plans.run(ALL);
        // Works of day 0, of days 0 and 2, of days 2, 3, 4, 6 and 7, and of day 0.
        int[] under = {3, 0, 2, 1, 1, 0, 1, 1, 0};
        for (int day = 0; day < under.length; day++) {
            Sentences.due("day " + day, plans.under(0, day), under[day]);
            Sentences.due("another kind, day " + day, plans.under(1, day), 0);
        }
        Sentences.due("day 200", plans.under(0, 200), 0);
        Sentences.due("the last day", plans.under(0, Integer.MAX_VALUE), 0);
        Twins.changesNothing("asking", Twins::again, asked -> asked.under(0, 1));
    }

    private static void underRefused() {
        Sentences.of("BAD: none such, a day below 0.");
        Twins.range("kind", Twins::again, (plans, kind) -> plans.under(kind, 0), 0, 3, BAD);
        Twins.range("kind, on a rest day", Twins::again, (plans, kind) -> plans.under(kind, 3), 0, 3, BAD);
        Twins.range("day", Twins::again, (plans, day) -> plans.under(0, day), 0, Integer.MAX_VALUE, BAD);
        Twins.refused("no plan", Twins::told, plans -> plans.under(0, 0), BAD);
        Twins.refused("no plan, on a rest day", Twins::told, plans -> plans.under(0, 3), BAD);
        Twins.refused("a new object", Twins::empty, plans -> plans.under(0, 0), BAD);
    }

    private static void bound() {
        Sentences.of("What no END can be below: the greatest number of working days that the works of one crew need "
                + "together.");
        Sentences.due("a new object", new PlaceTimePlans().bound(), 0);
        PlaceTimePlans plans = Twins.crews(4);
        Sentences.due("no works", plans.bound(), 0);
        plans.work(3, 0, 1, 50, false);
        Sentences.due("one place", plans.bound(), 1);
        plans.work(2, 0, 50, 50, false);
        Sentences.due("just a day", plans.bound(), 1);
        plans.work(2, 0, 51, 50, false);
        Sentences.due("one and two days together", plans.bound(), 3);
        plans.work(0, 0, 12, 4, true);
        Sentences.due("as many of the first crew", plans.bound(), 3);
        plans.work(3, 0, 12, 4, true);
        Sentences.due("one more of the last crew", plans.bound(), 4);
        Sentences.due("an END", plans.run(ALL), 4);
        plans.rest(0);
        plans.season(0, 50, 60);
        Sentences.due("nothing else is looked at", plans.bound(), 4);
        PlaceTimePlans most = Twins.crews(1);
        for (int work = 0; work < 6; work++) {
            most.work(0, 0, 200, 1, false);
        }
        Sentences.due("the most there can be", most.bound(), 1200);
        Twins.changesNothing("asking", Twins::again, asked -> asked.bound());
    }

    /** Six works, of which the even ones can't be. */
    private static PlaceTimePlans lonely() {
        PlaceTimePlans plans = Twins.crews(1);
        for (int work = 0; work < 6; work++) {
            plans.work(0, 0, 10, 5, true);
            if (work % 2 == 0) {
                plans.season(work, 7, 7);
            }
        }
        return plans;
    }

    private static void lone() {
        Sentences.of("The k-th work for which there is no start and way that keeps the rules of a work.");
        PlaceTimePlans three = lonely();
        for (int k = 0; k < 3; k++) {
            Sentences.due("of three, " + k, three.lone(k), 2 * k);
        }
        PlaceTimePlans plans = Twins.one(10, 5, true);
        Sentences.due("none", plans.lone(0), BAD);
        plans.season(0, 99, 100);
        Sentences.due("the last start", plans.lone(0), BAD);
        plans.season(0, 99, 99);
        Sentences.due("a day too short", plans.lone(0), 0);
        plans.season(0, 100, 999);
        Sentences.due("no start 100", plans.lone(0), 0);
        plans.season(0, 98, 999);
        plans.rest(99);
        Sentences.due("day 98 is left", plans.lone(0), BAD);
        plans.rest(98);
        Sentences.due("no working day is left", plans.lone(0), 0);
        PlaceTimePlans forward = Twins.one(10, 5, true);
        forward.season(0, 3, 4);
        forward.bar(0, 10, 4);
        Sentences.due("forward alone", forward.lone(0), BAD);
        PlaceTimePlans barred = Twins.one(10, 5, true);
        barred.season(0, 3, 4);
        barred.bar(0, 0, 4);
        Sentences.due("backward alone", barred.lone(0), BAD);
        barred.bar(0, 10, 4);
        Sentences.due("neither way", barred.lone(0), 0);
        barred.season(0, 3, 5);
        Sentences.due("a day later", barred.lone(0), BAD);
        PlaceTimePlans late = Twins.onePlanned();
        late.late(0, 99);
        Sentences.due("late by 99 days", late.lone(0), BAD);
        late.late(0, 100);
        Sentences.due("late by 100 days", late.lone(0), 0);
        PlaceTimePlans others = Twins.twoOfOneCrew(5, 5);
        others.season(0, 0, 1);
        others.season(1, 0, 1);
        others.most(0, 0);
        Sentences.due("rules of two works and of all are none of a work", others.lone(0), BAD);
        Twins.changesNothing("asking", AskedBoundaries::lonely, asked -> asked.lone(1));
    }

    private static void loneRefused() {
        Sentences.of("BAD: none such.");
        Twins.range("k of three", AskedBoundaries::lonely, (plans, k) -> plans.lone(k), 0, 2, BAD);
        Twins.refused("none", Twins::again, plans -> plans.lone(0), BAD);
        Twins.refused("no works", Twins::fourCrews, plans -> plans.lone(0), BAD);
        Twins.refused("a new object", Twins::empty, plans -> plans.lone(0), BAD);
    }

    private static void late() {
        Sentences.of("A work can't start before its start in the plan at hand and 0 .. 100 days more.");
        int[] days = {0, 1, 50, 96};
        for (int more : days) {
            PlaceTimePlans plans = Twins.two(10, 10);
            plans.season(1, 3, 999);
            plans.run(ALL);
            Sentences.due("late by " + more, plans.late(1, more), true);
            Sentences.due("late by " + more + ", the plan stays", plans.told(1, 0), 3);
            plans.run(ALL);
            Sentences.due("late by " + more + ", start", plans.told(1, 0), 3 + more);
            Sentences.due("late by " + more + ", not the other one", plans.told(0, 0), 0);
            plans.run(ALL);
            Sentences.due("late by " + more + ", it holds on", plans.told(1, 0), 3 + more);
        }
        for (int more = 97; more <= 100; more += 3) {
            PlaceTimePlans plans = Twins.two(10, 10);
            plans.season(1, 3, 999);
            plans.run(ALL);
            Sentences.due("late by " + more, plans.late(1, more), true);
            Sentences.due("late by " + more + ", no start", plans.run(ALL), BAD);
        }
        PlaceTimePlans rest = Twins.one(10, 10, false);
        rest.rest(2);
        rest.run(ALL);
        rest.late(0, 2);
        rest.run(ALL);
        Sentences.due("all days count, and day 2 is no working day", rest.told(0, 0), 3);
        rest.late(0, 2);
        rest.run(ALL);
        Sentences.due("from the start in the new plan on", rest.told(0, 0), 5);
    }

    private static void lateRefused() {
        Sentences.of("False: none such, no plan.");
        Twins.range("work", Twins::held, (plans, work) -> Twins.bit(plans.late(work, 3)), 0, 2, NO);
        Twins.range("work of six", Twins::full, (plans, work) -> Twins.bit(plans.late(work, 3)), 0, 5, NO);
        Twins.range("days", Twins::held, (plans, days) -> Twins.bit(plans.late(1, days)), 0, 100, NO);
        Twins.range("days of the frozen one", Twins::held, (plans, days) -> Twins.bit(plans.late(0, days)), 0, 100, NO);
        Twins.refused("no plan", Twins::told, plans -> Twins.bit(plans.late(0, 3)), NO);
        Twins.refused("a new object", Twins::empty, plans -> Twins.bit(plans.late(0, 3)), NO);
    }

    private static void freeze() {
        Sentences.of("All works that start before a day in the plan at hand are frozen from now on with their start and way "
                + "(others are not any more): how many.");
        PlaceTimePlans plans = Twins.crews(3);
        int[] starts = {0, 4, 4};
        for (int work = 0; work < 3; work++) {
            plans.work(work, 0, 10, 10, false);
            plans.season(work, starts[work], 999);
        }
        plans.run(ALL);
        int[] days = {0, 1, 4, 5, Integer.MAX_VALUE, 1, 0};
        int[] frozen = {0, 1, 1, 3, 3, 1, 0};
        for (int which = 0; which < days.length; which++) {
            Sentences.due("before day " + days[which], plans.freeze(days[which]), frozen[which]);
            Sentences.due("before day " + days[which] + ", counted", plans.count(4), frozen[which]);
        }
        plans.freeze(5);
        plans.run(ALL);
        Sentences.due("their start and way alone", plans.tried(), 3);
        Sentences.due("still frozen behind a search", plans.count(4), 3);
        plans.freeze(4);
        plans.late(2, 2);
        Sentences.due("others are not any more", plans.replan(ALL), 1);
        Sentences.due("others are not any more, start", plans.told(2, 0), 6);
        plans.late(0, 1);
        Sentences.due("a frozen one is held", plans.replan(ALL), BAD);
        PlaceTimePlans back = Twins.goingBack();
        back.freeze(1);
        back.run(ALL);
        Sentences.due("its way", back.told(0, 2), 1);
        Sentences.due("its way, one try", back.tried(), 1);
    }

    private static void freezeRefused() {
        Sentences.of("BAD: a day below 0; no plan.");
        Twins.range("day", Twins::held, (plans, day) -> plans.freeze(day), 0, Integer.MAX_VALUE, BAD);
        Twins.refused("no plan", Twins::told, plans -> plans.freeze(5), BAD);
        Twins.refused("no plan, day 0", Twins::told, plans -> plans.freeze(0), BAD);
        Twins.refused("a new object", Twins::empty, plans -> plans.freeze(0), BAD);
    }

    private static void replan() {
        Sentences.of("Searches again, with so many tries: how many works are moved in the best plan, which is at hand then.");
        PlaceTimePlans plans = Twins.crews(3);
        for (int work = 0; work < 3; work++) {
            plans.work(work, 0, 10, 10, false);
        }
        plans.after(0, 1, 1);
        plans.after(1, 2, 1);
        Sentences.due("starts 0, 1 and 2", plans.run(ALL), 3);
        Sentences.due("5 tries are too few", plans.replan(5), BAD);
        Sentences.due("none is moved, found by the sixth one", plans.replan(6), 0);
        plans.late(2, 1);
        Sentences.due("one is moved", plans.replan(ALL), 1);
        Sentences.due("at hand then", plans.count(5), 4);
        plans.late(1, 2);
        Sentences.due("two are moved", plans.replan(ALL), 2);
        Sentences.due("at hand then, work 0", plans.told(0, 0), 0);
        Sentences.due("at hand then, work 1", plans.told(1, 0), 3);
        Sentences.due("at hand then, work 2", plans.told(2, 0), 4);
        plans.late(0, 3);
        Sentences.due("all are moved", plans.replan(ALL), 3);
        Sentences.due("all are moved, END", plans.count(5), 6);
        Sentences.due("as many tries as there may be", Twins.onePlanned().replan(20000), 0);
    }

    private static void replanRefused() {
        Sentences.of("BAD: no such number; no plan at hand, or none was found (it stays).");
        Twins.range("tries", Twins::onePlanned, (plans, tries) -> plans.replan(tries), 1, 20000, BAD);
        for (int tries = 0; tries < 20002; tries += 20001) {
            int number = tries;
            Twins.refused("tries " + number, Twins::held, plans -> plans.replan(number), BAD);
            Twins.refused("tries " + number + ", made again", Twins::again, plans -> plans.replan(number), BAD);
        }
        Twins.refused("no plan", Twins::told, plans -> plans.replan(500), BAD);
        Twins.refused("no works", Twins::fourCrews, plans -> plans.replan(500), BAD);
        Twins.refused("a new object", Twins::empty, plans -> plans.replan(500), BAD);
        PlaceTimePlans gone = Twins.planned();
        gone.season(0, 0, 0);
        Sentences.due("no plan, none was found", gone.run(ALL), BAD);
        int tried = gone.tried();
        Sentences.due("no plan, refused", gone.replan(7), BAD);
        Sentences.due("no plan, refused, the last search", gone.tried(), tried);
        PlaceTimePlans plans = Twins.two(5, 5);
        plans.run(ALL);
        plans.late(1, 4);
        plans.replan(ALL);
        plans.late(0, 100);
        plans.freeze(3);
        Sentences.due("none was found", plans.replan(ALL), BAD);
        Sentences.due("its END", plans.count(5), 6);
        Sentences.due("its start", plans.told(1, 0), 4);
        Sentences.due("what is frozen", plans.count(4), 1);
        Sentences.due("what was moved", plans.moved(1), true);
    }

    private static void moved() {
        Sentences.of("Whether a work was moved by the last replan() that found a plan (and the plan is at hand still).");
        PlaceTimePlans plans = Twins.two(5, 4);
        plans.run(ALL);
        dueMoved("a run alone", plans, false, false);
        plans.replan(ALL);
        dueMoved("none was moved", plans, false, false);
        plans.late(0, 1);
        plans.replan(ALL);
        dueMoved("the first one", plans, true, false);
        plans.replan(0);
        plans.run(0);
        dueMoved("behind refused ones", plans, true, false);
        plans.late(1, 100);
        plans.replan(ALL);
        dueMoved("behind one that found none", plans, true, false);
        plans.run(ALL);
        dueMoved("behind a run that found none", plans, true, false);
        plans.late(1, 1);
        plans.freeze(1);
        dueMoved("behind late and freeze", plans, true, false);
        plans.freeze(0);
        plans.replan(ALL);
        dueMoved("the last replan", plans, false, true);
        plans.run(ALL);
        dueMoved("another plan is at hand", plans, false, false);
        PlaceTimePlans turning = Twins.turning();
        turning.late(0, 1);
        turning.replan(ALL);
        dueMoved("by another way alone", turning, true, true);
        turning.run(ALL);
        dueMoved("behind a run that finds the same plan", turning, false, false);
        turning.late(0, 0);
        turning.replan(ALL);
        dueMoved("behind a replan that moves none", turning, false, false);
        movedOfSix();
        Twins.changesNothing("asking", Twins::again, asked -> Twins.bit(asked.moved(1)));
    }

    private static void movedOfSix() {
        for (int late = 0; late < 6; late++) {
            PlaceTimePlans plans = Twins.crews(4);
            for (int work = 0; work < 6; work++) {
                plans.work(work % 4, 0, 10, 10, false);
            }
            plans.run(ALL);
            plans.late(late, 10);
            Sentences.due("of six, " + late, plans.replan(ALL), 1);
            for (int work = 0; work < 6; work++) {
                Sentences.due("of six, " + late + " is late, work " + work, plans.moved(work), work == late);
            }
        }
    }

    private static void dueMoved(String what, PlaceTimePlans plans, boolean first, boolean second) {
        Sentences.due(what + ", work 0", plans.moved(0), first);
        Sentences.due(what + ", work 1", plans.moved(1), second);
    }

    private static void movedRefused() {
        Sentences.of("False also: none such.");
        int[] none = {-1, 2, 5, 6, Integer.MIN_VALUE, Integer.MAX_VALUE};
        for (int work : none) {
            Twins.refused("work " + work, Twins::bothMoved, plans -> Twins.bit(plans.moved(work)), NO);
        }
        Sentences.due("but these were", Twins.bothMoved().moved(0) && Twins.bothMoved().moved(1), true);
        Twins.refused("no plan", Twins::told, plans -> Twins.bit(plans.moved(0)), NO);
        Twins.refused("a new object", Twins::empty, plans -> Twins.bit(plans.moved(0)), NO);
        PlaceTimePlans gone = Twins.bothMoved();
        gone.rest(199);
        dueMoved("the plan is gone", gone, false, false);
    }

    private static void slackByPlaces() {
        Sentences.of("How many days later a work could start in the plan at hand, one by one, with all else as it is: as "
                + "long as all rules are kept (days that are no working days are left out, and do not count), no start is "
                + "above 99, and no end above the plan's END.");
        PlaceTimePlans plans = Twins.two(5, 2);
        plans.run(ALL);
        Sentences.due("its end may be the END", plans.slack(0), 3);
        Sentences.due("its end is the END", plans.slack(1), 0);
        plans.rest(2);
        plans.rest(3);
        plans.run(ALL);
        // The END is 7; it may start on day 5, behind the days 1 and 4.
        Sentences.due("days that are no working days", plans.slack(0), 3);
        PlaceTimePlans far = Twins.crews(2);
        far.work(0, 0, 200, 1, false);
        far.work(1, 0, 10, 10, false);
        far.run(ALL);
        Sentences.due("start 99", far.slack(1), 99);
        far.season(1, 98, 999);
        far.run(ALL);
        Sentences.due("start 99, from 98 on", far.slack(1), 1);
        far.rest(99);
        far.run(ALL);
        Sentences.due("day 99 is no working day", far.slack(1), 0);
        far.season(1, 97, 999);
        far.rest(98);
        far.run(ALL);
        Sentences.due("nor is day 98", far.slack(1), 0);
        PlaceTimePlans back = Twins.crews(2);
        back.work(0, 10, 20, 4, true);
        back.work(1, 0, 10, 2, false);
        back.bar(0, 10, 2);
        back.run(ALL);
        Sentences.due("backward", back.slack(0), 2);
        Twins.changesNothing("asking", Twins::again, asked -> asked.slack(2));
    }

    private static void slackByRules() {
        PlaceTimePlans crew = Twins.crews(2);
        crew.work(0, 0, 10, 10, false);
        crew.work(0, 0, 10, 10, false);
        crew.work(1, 0, 10, 1, false);
        crew.season(1, 4, 999);
        crew.run(ALL);
        Sentences.due("up to the crew's next work, though there is room behind it", crew.slack(0), 3);
        Sentences.due("behind the crew's other work", crew.slack(1), 5);
        crew.season(1, 4, 6);
        crew.run(ALL);
        Sentences.due("to the end of its season", crew.slack(1), 2);
        crew.late(0, 1);
        Sentences.due("late by 1 day", crew.slack(0), 3);
        crew.late(0, 2);
        Sentences.due("late by 2 days: one day later it is too soon", crew.slack(0), 0);
        PlaceTimePlans order = Twins.crews(3);
        order.work(0, 0, 10, 10, false);
        order.work(1, 0, 10, 10, false);
        order.work(2, 0, 10, 1, false);
        order.after(0, 1, 2);
        order.season(1, 5, 999);
        order.run(ALL);
        Sentences.due("up to 2 days before the work behind it", order.slack(0), 3);
        Sentences.due("behind the work before it", order.slack(1), 4);
        PlaceTimePlans kind = Twins.ofOneKind(3);
        kind.most(0, 2);
        kind.season(1, 3, 999);
        kind.season(2, 3, 3);
        kind.crew(1);
        kind.work(3, 0, 10, 1, false);
        kind.run(ALL);
        Sentences.due("up to the day that is full", kind.slack(0), 2);
        Sentences.due("from the day that is full", kind.slack(1), 6);
        PlaceTimePlans free = Twins.two(10, 1);
        free.run(ALL);
        free.freeze(1);
        Sentences.due("frozen is none of the rules", free.slack(0), 9);
    }

    private static void slackRefused() {
        Sentences.of("BAD: none such, no plan.");
        Twins.range("work", Twins::again, (plans, work) -> plans.slack(work), 0, 2, BAD);
        Twins.range("work of six", Twins::full, (plans, work) -> plans.slack(work), 0, 5, BAD);
        Twins.refused("no plan", Twins::told, plans -> plans.slack(0), BAD);
        Twins.refused("a new object", Twins::empty, plans -> plans.slack(0), BAD);
    }

    /** Of a draw, for each of its days, what is compared with the chance; reckoned with numbers that never go round. */
    private static int[] drawn(int seed, int draw) {
        BigInteger x = BigInteger.valueOf(seed);
        int[] drawn = new int[400];
        for (int day = -400 * draw; day < 400; day++) {
            x = x.multiply(BigInteger.valueOf(1103515245)).add(BigInteger.valueOf(12345)).mod(BigInteger.TWO.pow(31));
            if (day >= 0) {
                drawn[day] = x.divide(BigInteger.valueOf(65536)).mod(BigInteger.valueOf(100)).intValue();
            }
        }
        return drawn;
    }

    /** When a work ends by a draw that starts on a day and goes on so many dry days, without rest days. */
    private static int endDrawn(int[] drawn, int chance, int start, int days) {
        int left = days;
        int day = start;
        while (left > 0) {
            if (day >= drawn.length || drawn[day] >= chance) {
                left--;
            }
            day++;
        }
        return day;
    }

    private static void oddsByDraws() {
        Sentences.of("Of so many draws (1 .. 50) in how many the works of the plan at hand end on or before a day: x is the "
                + "seed at first; for each draw, for days 0 .. 399: x = x * 1103515245 + 12345, the lowest 31 bits; the day "
                + "is wet if x / 65536 modulo 100 is below chance (0 .. 90).");
        PlaceTimePlans plans = Twins.one(10, 5, false);
        plans.run(ALL);
        // From seed 1 the days 0 and on draw 38, 58, 13, 15, 51, 27, 10, 19, 12, 86.
        Sentences.due("on the day", plans.odds(5, 1, 40, 1), 1);
        Sentences.due("a day before", plans.odds(4, 1, 40, 1), 0);
        Sentences.due("38 is not below 38", plans.odds(2, 1, 38, 1), 1);
        Sentences.due("38 is below 39", plans.odds(2, 1, 39, 1), 0);
        Sentences.due("chance 0", plans.odds(2, 50, 0, 1), 50);
        Sentences.due("chance 0, a day before", plans.odds(1, 50, 0, 1), 0);
        Sentences.due("day 0", plans.odds(0, 50, 0, 1), 0);
        for (int draws = 1; draws <= 50; draws++) {
            int inTime = 0;
            for (int draw = 0; draw < draws; draw++) {
                inTime += endDrawn(drawn(7, draw), 45, 0, 2) <= 4 ? 1 : 0;
            }
            Sentences.due(draws + " draws", plans.odds(4, draws, 45, 7), inTime);
        }
        // Behind day 399 no day is drawn: of 200 days most are left to go on then.
        PlaceTimePlans longest = Twins.one(200, 1, false);
        longest.season(0, 99, 999);
        longest.run(ALL);
        for (int seed = 0; seed < 25; seed++) {
            int end = endDrawn(drawn(seed, 0), 90, 99, 200);
            Sentences.due("behind day 399, seed " + seed, longest.odds(end, 1, 90, seed), 1);
            Sentences.due("behind day 399, a day before, seed " + seed, longest.odds(end - 1, 1, 90, seed), 0);
        }
        Sentences.due("the last day", longest.odds(Integer.MAX_VALUE, 50, 90, 3), 50);
        oddsAtTheLastDrawnDay();
        Twins.changesNothing("asking", Twins::again, asked -> asked.odds(20, 50, 50, 5));
    }

    /** Works that end on the last dry day that is drawn, and with one day and two days more. */
    private static void oddsAtTheLastDrawnDay() {
        for (int seed = 0; seed < 5; seed++) {
            int[] drawn = drawn(seed, 0);
            int dry = 0;
            for (int day = 0; day < 400; day++) {
                dry += drawn[day] >= 90 ? 1 : 0;
            }
            for (int more = 0; more < 3; more++) {
                PlaceTimePlans plans = Twins.one(dry + more, 1, false);
                plans.run(ALL);
                int end = endDrawn(drawn, 90, 0, dry + more);
                String what = "as many as there are dry days, and " + more + ", seed " + seed;
                Sentences.due(what, plans.odds(end, 1, 90, seed), 1);
                Sentences.due(what + ", a day before", plans.odds(end - 1, 1, 90, seed), 0);
            }
        }
    }

    /** A work of one day tells by its end which day of a draw is dry first. */
    private static void oddsRoundTheSeed() {
        PlaceTimePlans plans = Twins.one(10, 10, false);
        plans.run(ALL);
        int[] seeds = {0, 1, -1, 2, -2, 65535, 65536, -65536, 1 << 30, -(1 << 30), Integer.MAX_VALUE,
            Integer.MAX_VALUE - 1, Integer.MIN_VALUE, Integer.MIN_VALUE + 1, 12345, -12345, 1103515245};
        for (int seed : seeds) {
            for (int draw = 0; draw < 3; draw++) {
                int end = endDrawn(drawn(seed, draw), 90, 0, 1);
                int before = 0;
                int until = 0;
                for (int first = 0; first < draw; first++) {
                    int sooner = endDrawn(drawn(seed, first), 90, 0, 1);
                    before += sooner <= end - 1 ? 1 : 0;
                    until += sooner <= end ? 1 : 0;
                }
                String what = "seed " + seed + ", draw " + draw;
                Sentences.due(what, plans.odds(end, draw + 1, 90, seed), until + 1);
                Sentences.due(what + ", a day before", plans.odds(end - 1, draw + 1, 90, seed), before);
            }
        }
        Sentences.due("a seed and 2147483648 more draw alike", plans.odds(3, 50, 60, 5),
                plans.odds(3, 50, 60, 5 + Integer.MIN_VALUE));
    }

    private static void oddsOfWorks() {
        Sentences.of("Wet days are rest days, too; a work starts on the first working day from its start on; nothing else "
                + "is looked at.");
        // From seed 1, with chance 40, the days 1, 4 and 9 are dry among 0 .. 9.
        PlaceTimePlans plans = Twins.one(10, 10, false);
        plans.rest(1);
        plans.run(ALL);
        Sentences.due("day 1 is a rest day, day 4 is dry", plans.odds(5, 1, 40, 1), 1);
        Sentences.due("day 1 is a rest day", plans.odds(4, 1, 40, 1), 0);
        plans.season(0, 5, 5);
        plans.run(ALL);
        Sentences.due("it starts on day 9, out of its season", plans.odds(10, 1, 40, 1), 1);
        Sentences.due("not before", plans.odds(9, 1, 40, 1), 0);
        PlaceTimePlans crew = Twins.twoOfOneCrew(10, 10);
        crew.after(0, 1, 0);
        crew.run(ALL);
        Sentences.due("starts 0 and 1", crew.told(1, 0), 1);
        Sentences.due("both on day 1, though of one crew", crew.odds(2, 1, 40, 1), 1);
        Sentences.due("not before, both", crew.odds(1, 1, 40, 1), 0);
        PlaceTimePlans kind = Twins.ofOneKind(2);
        kind.most(0, 1);
        kind.run(ALL);
        Sentences.due("both on day 1, though of one kind", kind.odds(2, 1, 40, 1), 1);
        PlaceTimePlans last = Twins.two(10, 5);
        last.run(ALL);
        Sentences.due("all works end", last.odds(5, 1, 40, 1), 1);
        Sentences.due("one of them ends", last.odds(4, 1, 40, 1), 0);
        PlaceTimePlans late = Twins.onePlanned();
        late.late(0, 50);
        Sentences.due("late is not looked at", late.odds(2, 1, 0, 1), 1);
    }

    private static void oddsRefused() {
        Sentences.of("BAD: none such; no plan.");
        Twins.range("day", Twins::again, (plans, day) -> plans.odds(day, 5, 20, 7), 0, Integer.MAX_VALUE, BAD);
        Twins.range("draws", Twins::again, (plans, draws) -> plans.odds(9, draws, 20, 7), 1, 50, BAD);
        Twins.range("chance", Twins::again, (plans, chance) -> plans.odds(9, 5, chance, 7), 0, 90, BAD);
        Twins.range("any seed", Twins::again, (plans, seed) -> plans.odds(9, 5, 20, seed), Integer.MIN_VALUE,
                Integer.MAX_VALUE, BAD);
        Twins.refused("no plan", Twins::told, plans -> plans.odds(9, 5, 20, 7), BAD);
        Twins.refused("a new object", Twins::empty, plans -> plans.odds(9, 5, 20, 7), BAD);
    }

    private static void count() {
        Sentences.of("0 crews, 1 works, 2 rest days, 3 bars, 4 works frozen, 5 the END of the plan at hand (BAD without).");
        dueCounts("a new object", Twins.empty(), 0, 0, 0, 0, 0, BAD);
        dueCounts("no plan", Twins.told(), 3, 3, 2, 1, 0, BAD);
        dueCounts("all rest days", Twins.resting(), 1, 1, 200, 0, 0, BAD);
        PlaceTimePlans full = Twins.crews(4);
        for (int work = 0; work < 6; work++) {
            full.work(work % 4, 0, 10, 10, false);
        }
        for (int told = 0; told < 8; told++) {
            full.bar(5, 0, 1);
        }
        dueCounts("full", full, 4, 6, 0, 8, 0, BAD);
        full.run(ALL);
        full.freeze(Integer.MAX_VALUE);
        dueCounts("full, with a plan", full, 4, 6, 0, 8, 6, 2);
        full.crew(9);
        full.work(0, 0, 10, 10, false);
        full.bar(0, 0, 1);
        full.rest(200);
        dueCounts("behind refused calls", full, 4, 6, 0, 8, 6, 2);
        full.rest(199);
        dueCounts("the plan is gone", full, 4, 6, 1, 8, 0, BAD);
        Twins.changesNothing("asking", Twins::again, asked -> asked.count(4));
    }

    private static void dueCounts(String what, PlaceTimePlans plans, int... counts) {
        for (int which = 0; which < counts.length; which++) {
            Sentences.due(what + ", " + which, plans.count(which), counts[which]);
        }
    }

    private static void countRefused() {
        Sentences.of("BAD: another number.");
        Twins.range("what", Twins::again, (plans, what) -> plans.count(what), 0, 5, BAD);
        Twins.range("what, a new object", Twins::empty, (plans, what) -> plans.count(what), 0, 4, BAD);
    }
}
