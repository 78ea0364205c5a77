/** The sentences of the document's terms: the line, how a work goes, the rules, a plan, and the search. */
final class TermsBoundaries {
    private static final int BAD = Twins.BAD;
    private static final int ALL = Twins.ALL;

    private TermsBoundaries() {
    }

    static void all() {
        calls();
        places();
        crewsAndKinds();
        works();
        days();
        going();
        end();
        arrivesAndLeaves();
        fractions();
        starts();
        seasons();
        bars();
        oneCrew();
        afterAtEachPlace();
        afterInEitherOrder();
        afterOfEachTwo();
        afterByDays();
        most();
        planEnd();
        order();
        frozen();
        goesOn();
        triesCount();
        proved();
        betterForRun();
        betterForReplan();
    }

    private static void calls() {
        Sentences.of("An object is used for at most 512 calls after it has been made; what later calls answer is free.");
        PlaceTimePlans plans = Twins.crews(1);
        plans.work(0, 0, 10, 5, false);
        for (int call = 2; call < 510; call++) {
            plans.learned(0, call % 7 + 1, 1);
        }
        // 509 % 7 + 1 = 6 places a day.
        Sentences.due("the 511th call", plans.run(ALL), 2);
        Sentences.due("the 512th call", plans.passes(0, 8, false, 1), 3);
        PlaceTimePlans searching = Twins.one(200, 1, true);
        for (int call = 2; call < 511; call++) {
            searching.run(ALL);
        }
        Sentences.due("the 512th call, behind searches", searching.run(1), 200);
    }

    private static void places() {
        Sentences.of("THE LINE has PLACES 0 .. 200.");
        PlaceTimePlans plans = Twins.one(200, 50, false);
        Sentences.due("the whole line", plans.run(ALL), 4);
        Sentences.due("at place 0", plans.at(0, 0), 0);
        Sentences.due("at place 200", plans.at(0, 4), 200);
        Sentences.due("comes to place 0", plans.passes(0, 0, false, 0), 0);
        Sentences.due("comes to place 200", plans.passes(0, 200, false, 0), 4);
        Sentences.due("no place -1", plans.passes(0, -1, false, 0), BAD);
        Sentences.due("no place 201", plans.passes(0, 201, false, 0), BAD);
        Sentences.due("from 200 on", plans.work(0, 200, 201, 1, false), BAD);
        Sentences.due("up to 0", plans.work(0, -1, 0, 1, false), BAD);
        Sentences.due("the last two places", plans.work(0, 199, 200, 1, false), 1);
        Sentences.due("the first two places", plans.work(0, 0, 1, 1, false), 2);
    }

    private static void crewsAndKinds() {
        Sentences.of("CREWS 0 .. 3 have a KIND 0 .. 3.");
        for (int first = 0; first < 4; first += 3) {
            PlaceTimePlans plans = new PlaceTimePlans();
            for (int crew = 0; crew < 4; crew++) {
                Sentences.due("crew " + crew, plans.crew(Math.abs(first - crew)), crew);
            }
            Sentences.due("no crew 4", plans.crew(0), BAD);
            for (int crew = 0; crew < 4; crew++) {
                Sentences.due("work of crew " + crew, plans.work(crew, 0, crew + 1, 1, false), crew);
            }
            Sentences.due("a work of crew 4", plans.work(4, 0, 1, 1, false), BAD);
            Sentences.due("all at once", plans.run(ALL), 4);
            for (int crew = 0; crew < 4; crew++) {
                for (int day = 0; day < 5; day++) {
                    // Each crew has a kind of its own, and goes a day longer than the one before.
                    int under = plans.under(Math.abs(first - crew), day);
                    Sentences.due("the kind of crew " + crew + ", day " + day, under, day <= crew ? 1 : 0);
                }
            }
            Sentences.due("no kind 4", plans.under(4, 0), BAD);
            Sentences.due("no kind -1", plans.under(-1, 0), BAD);
        }
    }

    private static void works() {
        Sentences.of("WORKS 0 .. 5 each have a crew, go from a place to a greater one (FORWARD), or, if they may go both "
                + "ways, from that back to the first one (BACKWARD), with a SPEED of 1 .. 50 places a day.");
        PlaceTimePlans plans = Twins.crews(1);
        for (int work = 0; work < 6; work++) {
            Sentences.due("work " + work, plans.work(0, work, work + 1, 1, false), work);
        }
        Sentences.due("no work 6", plans.work(0, 6, 7, 1, false), BAD);
        Sentences.due("six works of one crew", plans.run(ALL), 6);
        Sentences.due("the last work", plans.told(5, 0), 5);
        Sentences.due("none behind it", plans.told(6, 0), BAD);
        for (int may = 0; may < 2; may++) {
            // Backward it may start on day 0, for it comes to place 0 at 1.
            PlaceTimePlans barred = Twins.one(10, 10, may == 1);
            barred.bar(0, 0, 1);
            Sentences.due("END, may go both ways: " + may, barred.run(ALL), 2 - may);
            Sentences.due("way, may go both ways: " + may, barred.told(0, 2), may);
            Sentences.due("first place, may go both ways: " + may, barred.at(0, 0), 10 * may);
            Sentences.due("last place, may go both ways: " + may, barred.at(0, 2), 10 - 10 * may);
        }
        Sentences.due("from a place to itself", Twins.crews(1).work(0, 5, 5, 1, true), BAD);
        Sentences.due("to a smaller place", Twins.crews(1).work(0, 6, 5, 1, true), BAD);
        Sentences.due("speed 1", Twins.one(3, 1, false).run(ALL), 3);
        Sentences.due("speed 50", Twins.one(50, 50, false).run(ALL), 1);
        Sentences.due("speed 50, one place more", Twins.one(51, 50, false).run(ALL), 2);
        Sentences.due("speed 0", Twins.crews(1).work(0, 0, 10, 0, false), BAD);
        Sentences.due("speed 51", Twins.crews(1).work(0, 0, 10, 51, false), BAD);
    }

    private static void days() {
        Sentences.of("DAYS are 0 and on; some of 0 .. 199 are REST days; all others are WORKING days.");
        PlaceTimePlans plans = Twins.one(2, 1, false);
        for (int day = 0; day < 200; day++) {
            if (day != 99) {
                plans.rest(day);
            }
        }
        Sentences.due("day 200 is no rest day", plans.rest(200), false);
        Sentences.due("day -1 is none", plans.rest(-1), false);
        Sentences.due("rest days", plans.count(2), 199);
        Sentences.due("days 99 and 200", plans.run(ALL), 201);
        int[] some = {98, 99, 100, 199, 200, 201};
        int[] under = {0, 1, 0, 0, 1, 0};
        for (int which = 0; which < some.length; which++) {
            Sentences.due("under way on day " + some[which], plans.under(0, some[which]), under[which]);
        }
        Sentences.due("day 99, too", plans.rest(99), true);
        Sentences.due("no day to start on", plans.run(ALL), BAD);
        PlaceTimePlans first = Twins.one(2, 1, false);
        first.rest(0);
        Sentences.due("day 0 as a rest day", first.run(ALL), 3);
        PlaceTimePlans last = Twins.one(200, 2, false);
        last.season(0, 99, 999);
        Sentences.due("the last one on day 198", last.run(ALL), 199);
        last.learned(0, 1, 1);
        last.rest(199);
        Sentences.due("over day 199, a rest day", last.run(ALL), 300);
        Sentences.due("at day 199", last.at(0, 199), 100);
        Sentences.due("at day 200", last.at(0, 200), 100);
        Sentences.due("at day 201", last.at(0, 201), 101);
    }

    private static void going() {
        Sentences.of("A work with a START s and a way is at its first place at the beginning of day s, goes SPEED places, "
                + "evenly, on each working day (on the last one as far as is left), and does not move on rest days.");
        PlaceTimePlans plans = Twins.crews(1);
        plans.work(0, 3, 12, 4, false);
        plans.rest(1);
        plans.run(ALL);
        int[] places = {3, 7, 7, 11, 12, 12};
        for (int day = 0; day < places.length; day++) {
            Sentences.due("at day " + day, plans.at(0, day), places[day]);
        }
        duePass(plans, 4, false, 1, 4);
        duePass(plans, 5, false, 1, 2);
        duePass(plans, 6, false, 3, 4);
        duePass(plans, 8, false, 9, 4);
        // One place is left: it takes a quarter of the day, not the whole day.
        duePass(plans, 12, false, 13, 4);
        PlaceTimePlans back = Twins.goingBack();
        int[] placesBack = {20, 16, 16, 12, 10, 10};
        for (int day = 0; day < placesBack.length; day++) {
            Sentences.due("backward, at day " + day, back.at(0, day), placesBack[day]);
        }
    }

    private static void end() {
        Sentences.of("Its END is the day behind the last one on which it goes.");
        int[] to = {1, 3, 4, 5, 7, 8, 9};
        int[] ends = {1, 1, 1, 2, 2, 2, 3};
        for (int which = 0; which < to.length; which++) {
            Sentences.due("4 a day, to " + to[which], Twins.one(to[which], 4, false).run(ALL), ends[which]);
        }
        PlaceTimePlans plans = Twins.one(8, 4, false);
        plans.rest(2);
        Sentences.due("a rest day behind it", plans.run(ALL), 2);
        Sentences.due("a rest day behind it, told", plans.told(0, 1), 2);
        plans.rest(1);
        Sentences.due("rest days before the last one", plans.run(ALL), 4);
        Sentences.due("rest days before the last one, told", plans.told(0, 1), 4);
    }

    private static void duePass(PlaceTimePlans plans, int place, boolean leaves, int upper, int lower) {
        String what = (leaves ? "leaves " : "arrives at ") + place;
        Sentences.due(what + ", upper", plans.passes(0, place, leaves, 0), upper);
        Sentences.due(what + ", lower", plans.passes(0, place, leaves, 1), lower);
    }

    private static void arrivesAndLeaves() {
        Sentences.of("It ARRIVES at a place that it comes to when it is there first (at its first place: at s), and LEAVES "
                + "it when it goes on (at its last place: when it arrives): at a place where a day's way ends it arrives at "
                + "the end of that day (the number of the day and 1), and leaves at the beginning of the next working day.");
        PlaceTimePlans plans = Twins.one(12, 4, false);
        plans.season(0, 5, 999);
        plans.rest(4);
        plans.rest(6);
        plans.rest(7);
        plans.rest(10);
        // It goes on the days 5, 8 and 9.
        plans.run(ALL);
        duePass(plans, 0, false, 5, 1);
        duePass(plans, 0, true, 5, 1);
        duePass(plans, 1, true, 21, 4);
        duePass(plans, 3, true, 23, 4);
        duePass(plans, 4, false, 6, 1);
        duePass(plans, 4, true, 8, 1);
        duePass(plans, 5, false, 33, 4);
        duePass(plans, 8, false, 9, 1);
        duePass(plans, 8, true, 9, 1);
        duePass(plans, 12, false, 10, 1);
        duePass(plans, 12, true, 10, 1);
        PlaceTimePlans last = Twins.crews(1);
        last.work(0, 10, 18, 4, false);
        last.rest(2);
        last.run(ALL);
        // At the end of day 1, behind which is a rest day.
        duePass(last, 18, false, 2, 1);
        duePass(last, 18, true, 2, 1);
        PlaceTimePlans slow = Twins.one(3, 1, false);
        slow.rest(1);
        slow.run(ALL);
        // Each place is where a day's way ends: days 0, 2 and 3.
        duePass(slow, 0, true, 0, 1);
        duePass(slow, 1, false, 1, 1);
        duePass(slow, 1, true, 2, 1);
        duePass(slow, 2, false, 3, 1);
        duePass(slow, 2, true, 3, 1);
        duePass(slow, 3, false, 4, 1);
        duePass(slow, 3, true, 4, 1);
        arrivesAndLeavesBackward();
    }

    private static void arrivesAndLeavesBackward() {
        PlaceTimePlans back = Twins.goingBack();
        duePass(back, 20, false, 0, 1);
        duePass(back, 20, true, 0, 1);
        duePass(back, 16, false, 1, 1);
        duePass(back, 16, true, 2, 1);
        duePass(back, 12, false, 3, 1);
        duePass(back, 12, true, 3, 1);
        duePass(back, 10, false, 7, 2);
        duePass(back, 10, true, 7, 2);
    }

    private static void fractions() {
        Sentences.of("Times are fractions of days.");
        PlaceTimePlans plans = Twins.one(50, 50, false);
        plans.run(ALL);
        duePass(plans, 1, false, 1, 50);
        duePass(plans, 24, true, 12, 25);
        duePass(plans, 25, false, 1, 2);
        duePass(plans, 49, false, 49, 50);
        duePass(plans, 50, false, 1, 1);
        // A third and a quarter of a day: at place 1 the second one, with start 0, would be there too soon.
        PlaceTimePlans thirds = Twins.crews(2);
        thirds.work(0, 0, 3, 3, false);
        thirds.work(1, 0, 4, 4, false);
        thirds.after(0, 1, 0);
        Sentences.due("a quarter is before a third", thirds.run(ALL), 2);
    }

    private static void starts() {
        Sentences.of("Of a work: its start is 0 .. 99, a working day, and not before what late() told;");
        PlaceTimePlans plans = Twins.one(10, 10, false);
        Sentences.due("start 0", plans.run(ALL), 1);
        plans.season(0, 99, 999);
        Sentences.due("start 99", plans.run(ALL), 100);
        Sentences.due("late by 0 days", plans.late(0, 0), true);
        Sentences.due("late by 0 days, start 99", plans.run(ALL), 100);
        plans.late(0, 1);
        Sentences.due("late by 1 day, no start 100", plans.run(ALL), BAD);
        plans.season(0, 100, 999);
        Sentences.due("no start 100", plans.run(ALL), BAD);
        plans.season(0, 98, 999);
        plans.rest(98);
        Sentences.due("day 98 is no working day", plans.run(ALL), 100);
        plans.rest(99);
        Sentences.due("day 99 is none either", plans.run(ALL), BAD);
        PlaceTimePlans late = Twins.one(10, 10, false);
        late.run(ALL);
        late.late(0, 5);
        late.run(ALL);
        Sentences.due("just on the day told", late.told(0, 0), 5);
    }

    private static void seasons() {
        Sentences.of("all its working days lie in its SEASON (0 .. 999 at first);");
        PlaceTimePlans plans = Twins.one(10, 5, false);
        plans.season(0, 7, 8);
        Sentences.due("both its days", plans.run(ALL), 9);
        plans.season(0, 8, 8);
        Sentences.due("one day is too few", plans.run(ALL), BAD);
        plans.season(0, 7, 9);
        plans.rest(8);
        Sentences.due("a rest day inside", plans.run(ALL), 10);
        plans.season(0, 7, 8);
        Sentences.due("a rest day at its end", plans.run(ALL), BAD);
        plans.season(0, 8, 10);
        Sentences.due("a rest day at its beginning", plans.run(ALL), 11);
        plans.season(0, 6, 8);
        Sentences.due("a rest day behind it, still inside", plans.run(ALL), 8);
        // The last day that a work can reach is 398: a work of 200 days with the days 1 .. 199 as rest days.
        PlaceTimePlans longest = Twins.one(200, 1, false);
        for (int day = 1; day < 200; day++) {
            longest.rest(day);
        }
        Sentences.due("at first, the longest work", longest.run(ALL), 399);
        Sentences.due("at first, from day 0 on", longest.told(0, 0), 0);
        longest.season(0, 0, 398);
        Sentences.due("just as long", longest.run(ALL), 399);
        longest.season(0, 0, 397);
        Sentences.due("one day less", longest.run(ALL), BAD);
    }

    private static int startBarred(int place, int until) {
        PlaceTimePlans plans = Twins.one(10, 4, false);
        plans.bar(0, place, until);
        plans.run(ALL);
        return plans.told(0, 0);
    }

    private static void bars() {
        Sentences.of("it does not arrive at a BARRED place before the day told.");
        // With start s it arrives at 6 at s and 3/2, at 8 at s and 2, at 10 at s and 5/2.
        Sentences.due("just on the day", startBarred(8, 5), 3);
        Sentences.due("half a day too soon", startBarred(6, 5), 4);
        Sentences.due("at its last place", startBarred(10, 5), 3);
        Sentences.due("at its first place", startBarred(0, 5), 5);
        Sentences.due("a quarter of a day later", startBarred(1, 5), 5);
        Sentences.due("a quarter of a day sooner", startBarred(3, 5), 5);
        Sentences.due("before day 0", startBarred(8, 0), 0);
        Sentences.due("before day 1", startBarred(4, 1), 0);
        Sentences.due("before day 99", startBarred(0, 99), 99);
        Sentences.due("before day 100", startBarred(0, 100), BAD);
        Sentences.due("before day 101, at the last place", startBarred(10, 101), 99);
        Sentences.due("before day 102, at the last place", startBarred(10, 102), BAD);
        PlaceTimePlans plans = Twins.one(10, 4, false);
        plans.bar(0, 4, 2);
        plans.rest(1);
        plans.run(ALL);
        // With start 0 it arrives at 1 and leaves at 2.
        Sentences.due("it arrives before, and leaves on the day", plans.told(0, 0), 2);
        PlaceTimePlans back = Twins.one(10, 4, true);
        back.season(0, 0, 5);
        back.bar(0, 2, 5);
        Sentences.due("backward", back.run(ALL), 6);
        Sentences.due("backward, way", back.told(0, 2), 1);
    }

    private static void oneCrew() {
        Sentences.of("Of two works: those of one crew have no day in common (the one's end is not above the other one's "
                + "start);");
        PlaceTimePlans plans = Twins.twoOfOneCrew(5, 5);
        plans.season(1, 2, 3);
        Sentences.due("the one's end is the other one's start", plans.run(ALL), 4);
        Sentences.due("the first one", plans.told(0, 0), 0);
        plans.season(1, 1, 2);
        Sentences.due("a day too soon", plans.run(ALL), 5);
        Sentences.due("then it is behind", plans.told(0, 0), 3);
        plans.season(1, 4, 5);
        plans.season(0, 2, 9);
        Sentences.due("just before the other one", plans.run(ALL), 6);
        plans.season(0, 3, 9);
        Sentences.due("one day later", plans.run(ALL), 8);
        plans.season(0, 0, 999);
        plans.season(1, 0, 999);
        plans.rest(1);
        plans.rest(3);
        // Days 0 and 2, then 4 and 5: no rest day makes a day in common.
        Sentences.due("over rest days", plans.run(ALL), 6);
        Sentences.due("over rest days, the second one", plans.told(1, 0), 4);
        Sentences.due("two crews have all days in common", Twins.two(5, 5).run(ALL), 2);
    }

    private static void afterAtEachPlace() {
        Sentences.of("if b is AFTER a by d days, b arrives at each place that both come to not before a leaves it and d "
                + "days are gone.");
        PlaceTimePlans plans = Twins.two(10, 10);
        plans.after(0, 1, 0);
        Sentences.due("just when it leaves", plans.run(ALL), 1);
        plans.learned(1, 11, 1);
        Sentences.due("a bit too soon", plans.run(ALL), 2);
        PlaceTimePlans slower = Twins.two(10, 9);
        slower.after(0, 1, 0);
        Sentences.due("a bit later", slower.run(ALL), 2);
        Sentences.due("a bit later, start", slower.told(1, 0), 0);
        for (int apart = 0; apart < 2; apart++) {
            PlaceTimePlans touching = Twins.crews(2);
            touching.work(0, 0, 5, 5, false);
            touching.work(1, 5 + apart, 10, 5, false);
            touching.after(0, 1, 30);
            // At place 5, its last one, the first work leaves at 1.
            Sentences.due("common places: " + (1 - apart), touching.run(ALL), apart == 0 ? 32 : 1);
        }
        PlaceTimePlans inside = Twins.crews(2);
        inside.work(0, 0, 20, 5, false);
        inside.work(1, 5, 10, 5, false);
        inside.after(0, 1, 0);
        inside.run(ALL);
        // The first work leaves 5 at 1 and 10 at 2.
        Sentences.due("the shorter one behind", inside.told(1, 0), 1);
        inside.rest(1);
        inside.run(ALL);
        Sentences.due("it stays at 5 over a rest day", inside.told(1, 0), 2);
        PlaceTimePlans leaving = Twins.crews(2);
        leaving.work(0, 0, 8, 4, false);
        leaving.work(1, 0, 8, 8, false);
        leaving.after(0, 1, 0);
        leaving.run(ALL);
        // At 8 the first work leaves at 2, and the second one arrives with start s at s and 1; at 7 at 7/4 and s and 7/8.
        Sentences.due("the last places alone are too soon", leaving.told(1, 0), 1);
    }

    /** The one that is behind may be told before or behind the other one. */
    private static void afterInEitherOrder() {
        for (int first = 0; first < 2; first++) {
            int behind = 1 - first;
            String order = ", first is work " + first;
            PlaceTimePlans alike = Twins.crews(2);
            alike.work(0, 0, 8, 4, false);
            alike.work(1, 0, 8, 4, false);
            alike.after(first, behind, 0);
            Sentences.due("alike" + order, alike.run(ALL), 2);
            alike.rest(1);
            // At 4 both would arrive at 1 and leave at 2.
            Sentences.due("alike, with a rest day" + order, alike.run(ALL), 4);
            Sentences.due("alike, with a rest day, start" + order, alike.told(behind, 0), 2);
            PlaceTimePlans faster = Twins.crews(2);
            faster.work(0, 0, 6, first == 0 ? 3 : 4, false);
            faster.work(1, 0, 6, first == 0 ? 4 : 3, false);
            faster.after(first, behind, 0);
            // With start 0 it is at 1 at 1/4, which the first one leaves at 1/3.
            Sentences.due("faster" + order, faster.run(ALL), 3);
            Sentences.due("faster, start" + order, faster.told(behind, 0), 1);
            PlaceTimePlans inADay = Twins.crews(2);
            inADay.work(0, 0, 2, first == 0 ? 3 : 4, false);
            inADay.work(1, 0, 2, first == 0 ? 4 : 3, false);
            inADay.after(first, behind, 0);
            Sentences.due("faster, in a day" + order, inADay.run(ALL), 2);
            Sentences.due("faster, in a day, start" + order, inADay.told(behind, 0), 1);
            PlaceTimePlans slower = Twins.crews(2);
            slower.work(0, 0, 6, first == 0 ? 4 : 3, false);
            slower.work(1, 0, 6, first == 0 ? 3 : 4, false);
            slower.after(first, behind, 0);
            Sentences.due("slower" + order, slower.run(ALL), 2);
            Sentences.due("slower, start" + order, slower.told(behind, 0), 0);
            PlaceTimePlans slow = Twins.crews(2);
            slow.work(0, 0, 3, first == 0 ? 1 : 3, false);
            slow.work(1, 0, 3, first == 0 ? 3 : 1, false);
            slow.after(first, behind, 0);
            // The first one leaves 2 at 2 and 3 at 3; the one behind is at 3 a day from its start.
            Sentences.due("a place a day" + order, slow.run(ALL), 3);
            Sentences.due("a place a day, start" + order, slow.told(behind, 0), 2);
            PlaceTimePlans both = Twins.two(10, 10);
            both.learned(0, 1, 1);
            both.learned(1, 1, 1);
            both.after(first, behind, 2);
            Sentences.due("both a place a day" + order, both.run(ALL), 12);
            Sentences.due("both a place a day, start" + order, both.told(behind, 0), 2);
        }
    }

    /** Of each two of six works, which have one day each; the others have days of their own. */
    private static void afterOfEachTwo() {
        for (int pair = 0; pair < 36; pair++) {
            int a = pair / 6;
            int b = pair % 6;
            if (a != b) {
                PlaceTimePlans plans = Twins.crews(4);
                for (int work = 0; work < 6; work++) {
                    plans.work(work % 4, 0, 10, 10, false);
                    if (work != b) {
                        int day = work == a ? 20 : 10 + work;
                        plans.season(work, day, day);
                    }
                }
                plans.after(a, b, 3);
                Sentences.due(b + " is after " + a, plans.run(ALL), 24);
                Sentences.due(b + " is after " + a + ", start", plans.told(b, 0), 23);
            }
        }
    }

    private static void afterByDays() {
        PlaceTimePlans plans = Twins.two(10, 10);
        plans.rest(1);
        plans.rest(2);
        plans.after(0, 1, 3);
        Sentences.due("days that are gone are all days", plans.run(ALL), 4);
        PlaceTimePlans before = Twins.two(10, 10);
        before.after(1, 0, 2);
        Sentences.due("the first work behind", before.run(ALL), 3);
        Sentences.due("the first work behind, start", before.told(0, 0), 2);
        before.season(0, 1, 1);
        Sentences.due("too soon", before.run(ALL), BAD);
        before.season(0, 2, 2);
        Sentences.due("just in time", before.run(ALL), 3);
        PlaceTimePlans both = Twins.two(10, 10);
        both.after(0, 1, 0);
        both.after(1, 0, 0);
        Sentences.due("both at once", both.run(ALL), 1);
        both.after(1, 0, 1);
        Sentences.due("both, by a day", both.run(ALL), BAD);
        PlaceTimePlans meeting = Twins.crews(2);
        meeting.work(0, 0, 10, 10, false);
        meeting.work(1, 0, 10, 10, true);
        meeting.after(0, 1, 1);
        meeting.season(1, 1, 1);
        Sentences.due("forward behind it", meeting.run(ALL), 2);
        meeting.bar(1, 0, 2);
        // Backward it is at 10 at 1, where the first work leaves at 1: not a day later.
        Sentences.due("backward towards it", meeting.run(ALL), BAD);
        meeting.after(0, 1, 0);
        Sentences.due("backward when it has come", meeting.run(ALL), 2);
    }

    private static void most() {
        Sentences.of("Of all: on each working day no more works of crews of a kind are under way (from their start to the "
                + "day before their end) than its MOST (4 at first).");
        PlaceTimePlans plans = Twins.ofOneKind(4);
        Sentences.due("four at first", plans.run(ALL), 1);
        Sentences.due("it was 4", plans.most(0, 3), 4);
        Sentences.due("three", plans.run(ALL), 2);
        Sentences.due("three, the fourth waits", plans.told(3, 0), 1);
        plans.most(0, 4);
        Sentences.due("four", plans.run(ALL), 1);
        plans.most(0, 1);
        Sentences.due("one", plans.run(ALL), 4);
        plans.most(0, 0);
        Sentences.due("none", plans.run(ALL), BAD);
        plans.most(0, 4);
        plans.most(1, 0);
        Sentences.due("none of another kind", plans.run(ALL), 1);
        PlaceTimePlans next = Twins.ofOneKind(2);
        next.most(0, 1);
        next.learned(0, 5, 1);
        next.season(0, 0, 1);
        next.season(1, 2, 2);
        Sentences.due("one starts when the other one ends", next.run(ALL), 3);
        next.season(1, 1, 1);
        Sentences.due("one starts the day before", next.run(ALL), BAD);
        // Works of the days 0 .. 4 and of day 3: a third one may begin beside the first one, and not go on over day 3.
        PlaceTimePlans later = Twins.ofOneKind(3);
        later.most(0, 2);
        later.learned(0, 2, 1);
        later.season(0, 0, 4);
        later.season(1, 3, 3);
        later.learned(2, 3, 1);
        Sentences.due("days 4 .. 7", later.run(ALL), 8);
        later.learned(2, 4, 1);
        Sentences.due("days 0 .. 2", later.run(ALL), 5);
        later.rest(1);
        later.season(0, 0, 5);
        Sentences.due("days 0, 2 and 3, which is full", later.run(ALL), 7);
        // Works of the days 0 .. 4 and of day 0, which is full: a third one may begin on day 1.
        PlaceTimePlans sooner = Twins.ofOneKind(3);
        sooner.most(0, 2);
        sooner.learned(0, 2, 1);
        sooner.season(1, 0, 0);
        Sentences.due("a day that was full before", sooner.run(ALL), 5);
        Sentences.due("a day that was full before, start", sooner.told(2, 0), 1);
        for (int kind = 0; kind < 3; kind++) {
            PlaceTimePlans up = Twins.crews(3);
            PlaceTimePlans down = Twins.crews(3);
            for (int crew = 0; crew < 3; crew++) {
                up.work(crew, 0, 10, 10, false);
                down.work(2 - crew, 0, 10, 10, false);
            }
            up.most(kind, 1);
            down.most(kind, 1);
            Sentences.due("works of other kinds beside kind " + kind, up.run(ALL), 1);
            Sentences.due("works of other kinds before kind " + kind, down.run(ALL), 1);
        }
    }

    private static void planEnd() {
        Sentences.of("A PLAN has a start and a way for each work that keep all rules; its END is the greatest one of the "
                + "works.");
        PlaceTimePlans first = Twins.two(2, 5);
        Sentences.due("the first one's", first.run(ALL), 5);
        Sentences.due("the other one's", first.told(1, 1), 2);
        PlaceTimePlans last = Twins.two(5, 2);
        Sentences.due("the last one's", last.run(ALL), 5);
        Sentences.due("the last one's, told", last.told(1, 1), 5);
        Sentences.due("the last one's, counted", last.count(5), 5);
        PlaceTimePlans none = Twins.two(5, 5);
        none.season(1, 0, 0);
        Sentences.due("one work that can't be", none.run(ALL), BAD);
        Sentences.due("nothing of the others", none.told(0, 0), BAD);
    }

    private static void order() {
        Sentences.of("Work 0 is TRIED with start 0 forward, start 0 backward (if it may), start 1 forward, and so on up to "
                + "99; likewise the next work behind each try that GOES ON.");
        PlaceTimePlans plans = Twins.one(10, 10, true);
        Sentences.due("first start 0 forward", plans.run(1), 1);
        plans.bar(0, 0, 1);
        Sentences.due("not backward yet", plans.run(1), BAD);
        Sentences.due("second start 0 backward", plans.run(2), 1);
        plans.bar(0, 0, 2);
        Sentences.due("not start 1 backward yet", plans.run(3), BAD);
        Sentences.due("fourth start 1 backward", plans.run(4), 2);
        PlaceTimePlans third = Twins.one(10, 10, true);
        third.season(0, 1, 9);
        Sentences.due("not start 1 yet", third.run(2), BAD);
        Sentences.due("third start 1 forward", third.run(3), 2);
        for (int may = 0; may < 2; may++) {
            PlaceTimePlans last = Twins.one(10, 10, may == 1);
            last.season(0, 99, 999);
            Sentences.due("not start 99 yet, both: " + may, last.run(99 + 99 * may), BAD);
            Sentences.due("start 99 forward, both: " + may, last.run(100 + 99 * may), 100);
            last.run(ALL);
            Sentences.due("all tries, both: " + may, last.tried(), 100 + 100 * may);
        }
        PlaceTimePlans back = Twins.one(10, 10, true);
        back.bar(0, 0, 100);
        Sentences.due("not the last one yet", back.run(199), BAD);
        Sentences.due("last start 99 backward", back.run(200), 100);
        PlaceTimePlans next = Twins.two(10, 10);
        next.season(0, 1, 9);
        next.season(1, 2, 9);
        // Work 0 with start 0 and 1, then work 1 with start 0, 1 and 2.
        Sentences.due("the next work, not yet", next.run(4), BAD);
        Sentences.due("the next work", next.run(5), 3);
        next.run(ALL);
        // Work 0 ends on 2 with start 1, which is below 3; with start 2 it is not.
        Sentences.due("the next work, all tries", next.tried(), 200);
        PlaceTimePlans both = Twins.crews(2);
        both.work(0, 0, 10, 10, true);
        both.work(1, 0, 10, 10, false);
        both.season(1, 5, 5);
        both.run(ALL);
        // Both ways of work 0 with starts 0 .. 4 end before 6, so that work 1 is tried behind each of them.
        Sentences.due("the next work behind both ways", both.tried(), 200 + 10 * 100);
    }

    private static void frozen() {
        Sentences.of("A frozen work is tried with its start and way alone.");
        PlaceTimePlans plans = Twins.two(10, 10);
        plans.season(0, 3, 9);
        plans.season(1, 7, 9);
        plans.run(ALL);
        plans.freeze(4);
        Sentences.due("one of work 0 and 100 of work 1", plans.run(ALL), 8);
        Sentences.due("so many tries", plans.tried(), 101);
        plans.freeze(8);
        Sentences.due("both are frozen", plans.run(2), 8);
        Sentences.due("both are frozen, proved", plans.proved(), true);
        Sentences.due("both are frozen, tries", plans.tried(), 2);
        Sentences.due("one of the two tries", plans.run(1), BAD);
        PlaceTimePlans back = Twins.goingBack();
        back.freeze(1);
        Sentences.due("its way", back.run(1), 4);
        Sentences.due("its way, told", back.told(0, 2), 1);
        Sentences.due("its way, proved", back.proved(), true);
        back.late(0, 1);
        Sentences.due("and it keeps no rule then", back.replan(1), BAD);
        Sentences.due("still one try", back.tried(), 1);
    }

    private static void goesOn() {
        Sentences.of("A try goes on if it keeps all rules by itself and with the works before it, and is BETTER than the "
                + "best plan found so far; one of the last work that goes on is the best plan from then on.");
        PlaceTimePlans alone = Twins.two(10, 10);
        alone.season(0, 50, 50);
        alone.season(1, 60, 60);
        alone.run(ALL);
        Sentences.due("behind the one try of work 0 by itself", alone.tried(), 200);
        PlaceTimePlans three = Twins.twoOfOneCrew(10, 10);
        three.work(0, 0, 10, 10, false);
        three.season(0, 0, 0);
        three.season(1, 0, 1);
        three.season(2, 0, 1);
        // Work 1 goes on with start 1 alone, behind work 0; work 2 finds no day then.
        Sentences.due("with the works before it", three.run(ALL), BAD);
        Sentences.due("with the works before it, tries", three.tried(), 300);
        three.season(2, 0, 2);
        Sentences.due("one of the last work goes on", three.run(ALL), 3);
        PlaceTimePlans sooner = Twins.twoOfOneCrew(5, 4);
        sooner.season(0, 1, 999);
        // Found first: days 1 and 2, then 3 .. 5; better: days 3 and 4 behind 0 .. 2.
        Sentences.due("the first one is cut off", sooner.run(50), 6);
        Sentences.due("the best from then on", sooner.run(ALL), 5);
    }

    private static void triesCount() {
        Sentences.of("Each try counts, whatever comes of it; when as many are done as are granted the search ends.");
        PlaceTimePlans plans = Twins.two(10, 10);
        plans.rest(0);
        plans.season(0, 2, 999);
        int[] granted = {1, 2, 3, 4, 5, 50, 199};
        int[] ends = {BAD, BAD, BAD, BAD, 3, 3, 3};
        for (int which = 0; which < granted.length; which++) {
            // Starts 0, a rest day, and 1, out of season, count like start 2; then those of work 1, 0 and 1.
            Sentences.due("granted " + granted[which], plans.run(granted[which]), ends[which]);
            Sentences.due("done of " + granted[which], plans.tried(), granted[which]);
        }
        plans.run(ALL);
        Sentences.due("all there are", plans.tried(), 200);
        PlaceTimePlans again = Twins.two(10, 10);
        again.run(ALL);
        again.late(0, 1);
        Sentences.due("made again, granted 1", again.replan(1), BAD);
        Sentences.due("made again, done of 1", again.tried(), 1);
        Sentences.due("made again, granted 3", again.replan(3), 1);
        Sentences.due("made again, done of 3", again.tried(), 3);
    }

    private static void proved() {
        Sentences.of("It is PROVED if it ended before that, or with the last try that there was.");
        PlaceTimePlans plans = Twins.two(10, 10);
        int[] granted = {1, 2, 100, 101, 102, 199, 200, 201, ALL};
        for (int tries : granted) {
            // 100 of work 0, and 100 of work 1 behind its first one.
            plans.run(tries);
            Sentences.due("granted " + tries, plans.proved(), tries >= 200);
        }
        plans.season(1, 5, 5);
        plans.learned(1, 5, 1);
        for (int tries = 10099; tries <= 10101; tries++) {
            Sentences.due("no plan, granted " + tries, plans.run(tries), BAD);
            Sentences.due("no plan, proved, granted " + tries, plans.proved(), tries >= 10100);
        }
        PlaceTimePlans last = Twins.one(10, 10, true);
        last.bar(0, 0, 100);
        Sentences.due("found by the last try", last.run(200), 100);
        Sentences.due("found by the last try, proved", last.proved(), true);
        PlaceTimePlans goesOn = Twins.two(10, 10);
        goesOn.season(0, 99, 99);
        Sentences.due("the last try of work 0 goes on", goesOn.run(100), BAD);
        Sentences.due("the last try of work 0 is not the last one", goesOn.proved(), false);
        goesOn.run(200);
        Sentences.due("that of work 1 is", goesOn.proved(), true);
        PlaceTimePlans again = Twins.onePlanned();
        again.replan(99);
        Sentences.due("made again, granted 99", again.proved(), false);
        again.replan(100);
        Sentences.due("made again, granted 100", again.proved(), true);
    }

    private static void betterForRun() {
        Sentences.of("For run() a try is better if its work's end, and those of the works before, are below the END of the "
                + "best plan (without one always).");
        PlaceTimePlans plans = Twins.one(10, 10, true);
        plans.run(ALL);
        Sentences.due("with the same END the first one stays", plans.told(0, 2), 0);
        PlaceTimePlans before = Twins.crews(2);
        before.work(0, 0, 15, 5, false);
        before.work(1, 0, 10, 5, true);
        before.run(ALL);
        // Backward its own end, 2, is below 3, but not that of work 0.
        Sentences.due("the end of the work before", before.told(1, 2), 0);
        PlaceTimePlans own = Twins.crews(2);
        own.work(0, 0, 10, 5, true);
        own.work(1, 0, 15, 5, false);
        own.run(ALL);
        // Work 0 goes on backward and with start 0 alone: its end 2 is below 3, with start 1 it is not.
        Sentences.due("one of the first work", own.told(0, 2), 0);
        Sentences.due("so many tries", own.tried(), 200 + 2 * 100);
        PlaceTimePlans without = Twins.one(200, 1, false);
        without.season(0, 99, 999);
        Sentences.due("without one always", without.run(ALL), 299);
    }

    private static void betterForReplan() {
        Sentences.of("For replan() the works before it and itself that have another start or way than in the plan at hand "
                + "are MOVED: better is a try with fewer moved than in the best plan, or with as many if all ends so far are "
                + "below its END.");
        PlaceTimePlans fewer = Twins.twoOfOneCrew(5, 5);
        fewer.run(ALL);
        fewer.late(0, 1);
        // Found first: both moved, END 5; then work 0 alone, behind work 1, END 6.
        Sentences.due("fewer moved, a later END", fewer.replan(ALL), 1);
        Sentences.due("fewer moved, END", fewer.count(5), 6);
        PlaceTimePlans sooner = Twins.crews(1);
        sooner.work(0, 0, 15, 5, false);
        sooner.work(0, 0, 10, 5, false);
        sooner.season(0, 0, 6);
        sooner.run(ALL);
        sooner.late(0, 1);
        // Found first: starts 1 and 4, END 6; as many moved with starts 2 and 0, END 5.
        Sentences.due("as many moved", sooner.replan(ALL), 2);
        Sentences.due("as many moved, a sooner END", sooner.count(5), 5);
        PlaceTimePlans more = Twins.twoOfOneCrew(5, 4);
        more.season(0, 1, 999);
        more.run(ALL);
        more.late(1, 1);
        // Starts 3 and 0 at first. Found with one moved: starts 3 and 5, END 8; later, with both moved, 4 and 1, END 6.
        Sentences.due("more moved, a sooner END", more.replan(ALL), 1);
        Sentences.due("more moved, a sooner END, is not better", more.count(5), 8);
        PlaceTimePlans same = Twins.two(10, 5);
        same.run(ALL);
        same.late(0, 1);
        Sentences.due("one moved", same.replan(ALL), 1);
        Sentences.due("as many moved, the same END", same.told(0, 0), 1);
        PlaceTimePlans way = Twins.one(10, 5, true);
        way.bar(0, 0, 2);
        way.run(ALL);
        Sentences.due("it goes backward", way.told(0, 2), 1);
        Sentences.due("it is not moved", way.replan(ALL), 0);
        way.late(0, 2);
        Sentences.due("another start", way.replan(ALL), 1);
        Sentences.due("another start, the way that comes first", way.told(0, 2), 0);
        PlaceTimePlans turned = Twins.one(10, 5, true);
        turned.season(0, 0, 1);
        turned.run(ALL);
        Sentences.due("nothing is moved", turned.replan(ALL), 0);
        // Forward, as it was, is the first try; with none moved no other one is better.
        Sentences.due("nothing is moved, tries", turned.tried(), 200);
        PlaceTimePlans turning = Twins.turning();
        Sentences.due("before, the second work goes forward", turning.told(1, 2), 0);
        turning.late(0, 1);
        Sentences.due("another start, and another way", turning.replan(ALL), 2);
        Sentences.due("another way", turning.told(1, 2), 1);
        Sentences.due("with the same start", turning.told(1, 0), 3);
    }
}
