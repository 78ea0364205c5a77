/** The sentences of promises 1 to 9: a new object, and all that is told of a line. */
final class ToldBoundaries {
    private static final int BAD = Twins.BAD;
    private static final int NO = Twins.NO;
    private static final int ALL = Twins.ALL;

    private ToldBoundaries() {
    }

    static void all() {
        newObject();
        crew();
        crewRefused();
        planIsGone();
        work();
        workRefused();
        after();
        afterRefused();
        season();
        seasonRefused();
        bar();
        barRefused();
        rest();
        restRefused();
        most();
        mostRefused();
        learned();
        learnedRefused();
    }

    private static void newObject() {
        Sentences.of("No crews, works, rest days; no plan at hand.");
        PlaceTimePlans plans = new PlaceTimePlans();
        for (int what = 0; what < 5; what++) {
            Sentences.due("count " + what, plans.count(what), 0);
        }
        Sentences.due("count 5", plans.count(5), BAD);
        Sentences.due("no plan", plans.told(0, 0), BAD);
        Sentences.due("no crew 0", plans.work(0, 0, 10, 5, false), BAD);
        for (int kind = 0; kind < 4; kind++) {
            Sentences.due("the most of kind " + kind, plans.most(kind, 4), 4);
        }
        for (int day = 0; day < 200; day++) {
            Sentences.due("day " + day + " was none", plans.rest(day), true);
        }
        PlaceTimePlans other = Twins.full();
        other.rest(7);
        PlaceTimePlans fresh = new PlaceTimePlans();
        Sentences.due("another object's crews", fresh.count(0), 0);
        Sentences.due("another object's works", fresh.count(1), 0);
        Sentences.due("another object's rest days", fresh.count(2), 0);
        Sentences.due("another object's first crew", fresh.crew(0), 0);
        Sentences.due("another object's crews stay", other.count(0), 4);
    }

    private static void crew() {
        Sentences.of("One more crew: which one.");
        PlaceTimePlans plans = new PlaceTimePlans();
        for (int crew = 0; crew < 4; crew++) {
            Sentences.due("crew " + crew, plans.crew(2), crew);
            Sentences.due("so many", plans.count(0), crew + 1);
        }
        PlaceTimePlans more = Twins.planned();
        Sentences.due("behind works and a plan", more.crew(0), 3);
        Sentences.due("the works stay", more.count(1), 3);
    }

    private static void crewRefused() {
        Sentences.of("BAD: kind is not 0 .. 3; there are 4.");
        Twins.range("kind", Twins::empty, (plans, kind) -> plans.crew(kind), 0, 3, BAD);
        Twins.range("kind, with a plan", Twins::held, (plans, kind) -> plans.crew(kind), 0, 3, BAD);
        for (int kind = 0; kind < 4; kind++) {
            int which = kind;
            Twins.refused("a fifth crew", Twins::fourCrews, plans -> plans.crew(which), BAD);
        }
        Twins.refused("a fifth crew, with a plan", Twins::full, plans -> plans.crew(0), BAD);
    }

    private static final String[] TELLERS = {"crew", "work", "after", "season", "bar", "rest", "most", "learned"};

    /** Tells what leaves every plan possible that was. */
    private static void tell(PlaceTimePlans plans, int teller) {
        switch (teller) {
            case 0: plans.crew(1); break;
            case 1: plans.work(1, 100, 110, 10, false); break;
            case 2: plans.after(1, 0, 0); break;
            case 3: plans.season(0, 0, 999); break;
            case 4: plans.bar(0, 5, 0); break;
            case 5: plans.rest(199); break;
            case 6: plans.most(0, 4); break;
            default: plans.learned(0, 5, 1);
        }
    }

    private static void planIsGone() {
        Sentences.of("The plan at hand is gone, and what is frozen and late (so with all that is told up to learned(), if "
                + "it is not refused).");
        for (int teller = 0; teller < TELLERS.length; teller++) {
            String name = TELLERS[teller];
            PlaceTimePlans plans = Twins.two(5, 5);
            plans.run(ALL);
            plans.late(0, 9);
            plans.freeze(1);
            Sentences.due(name + ", before: END", plans.count(5), 2);
            Sentences.due(name + ", before: frozen", plans.count(4), 2);
            Sentences.due(name + ", before: late and frozen", plans.run(ALL), BAD);
            tell(plans, teller);
            Sentences.due(name + ": END", plans.count(5), BAD);
            Sentences.due(name + ": start", plans.told(0, 0), BAD);
            Sentences.due(name + ": frozen", plans.count(4), 0);
            Sentences.due(name + ": the last search stays, proved", plans.proved(), true);
            Sentences.due(name + ": the last search stays, tries", plans.tried(), 1);
            plans.run(ALL);
            Sentences.due(name + ": late no more", plans.told(0, 0), 0);
            Sentences.due(name + ": frozen no more", plans.tried() > 100, true);
        }
        PlaceTimePlans moved = Twins.two(5, 5);
        moved.run(ALL);
        moved.late(0, 1);
        moved.replan(ALL);
        moved.most(0, 4);
        Sentences.due("moved no more", moved.moved(0), false);
        moved.run(ALL);
        Sentences.due("nor by a new plan", moved.moved(0), false);
        Twins.refused("refused by crew", Twins::held, plans -> plans.crew(4), BAD);
        Twins.refused("refused by learned", Twins::held, plans -> plans.learned(0, 1, 0), BAD);
    }

    private static void work() {
        Sentences.of("One more work: which one.");
        PlaceTimePlans plans = Twins.crews(2);
        for (int work = 0; work < 6; work++) {
            Sentences.due("work " + work, plans.work(work % 2, 0, 200, 50, true), work);
            Sentences.due("so many", plans.count(1), work + 1);
        }
        PlaceTimePlans likeAll = Twins.planned();
        Sentences.due("one like another one", likeAll.work(0, 10, 20, 4, true), 3);
    }

    private static void workRefused() {
        Sentences.of("BAD: no such crew, places (0 <= from < to <= 200), speed; there are 6.");
        Twins.refused("no crews", Twins::empty, plans -> plans.work(0, 0, 10, 5, true), BAD);
        Twins.range("crew", Twins::held, (plans, crew) -> plans.work(crew, 0, 10, 5, true), 0, 2, BAD);
        Twins.range("crew of four", Twins::fourCrews, (plans, crew) -> plans.work(crew, 0, 10, 5, true), 0, 3, BAD);
        Twins.range("from", Twins::held, (plans, from) -> plans.work(0, from, 100, 5, true), 0, 99, BAD);
        Twins.range("from, up to 200", Twins::held, (plans, from) -> plans.work(0, from, 200, 5, true), 0, 199, BAD);
        Twins.range("to", Twins::held, (plans, to) -> plans.work(0, 100, to, 5, true), 101, 200, BAD);
        Twins.range("to, from 0", Twins::held, (plans, to) -> plans.work(0, 0, to, 5, true), 1, 200, BAD);
        Twins.range("speed", Twins::held, (plans, speed) -> plans.work(0, 0, 10, speed, true), 1, 50, BAD);
        Twins.refused("a seventh work", Twins::full, plans -> plans.work(0, 0, 10, 5, true), BAD);
        Twins.refused("a seventh work of another crew", Twins::full, plans -> plans.work(3, 0, 1, 1, false), BAD);
    }

    private static void after() {
        Sentences.of("Work b is after work a by 0 .. 30 days (what was told of these two so before is no more).");
        PlaceTimePlans plans = Twins.two(10, 10);
        int[] days = {0, 30, 1, 0, 2};
        for (int told : days) {
            Sentences.due("told " + told, plans.after(0, 1, told), true);
            Sentences.due("END by " + told, plans.run(ALL), told + 1);
        }
        Sentences.due("the other way round, told", plans.after(1, 0, 0), true);
        Sentences.due("the other way round is not of these two so", plans.run(ALL), BAD);
        Sentences.due("refused, told", plans.after(0, 1, 31), false);
        Sentences.due("0 days", plans.after(0, 1, 0), true);
        Sentences.due("both by 0 days", plans.run(ALL), 1);
        PlaceTimePlans none = Twins.two(10, 10);
        none.season(0, 1, 1);
        Sentences.due("nothing told is not 0 days", none.run(ALL), 2);
        Sentences.due("nothing told, start", none.told(1, 0), 0);
        none.after(0, 1, 0);
        none.run(ALL);
        Sentences.due("0 days, start", none.told(1, 0), 1);
        PlaceTimePlans last = Twins.full();
        Sentences.due("of the last works", last.after(4, 5, 30), true);
        last.run(ALL);
        // Work 4: 4 .. 24; work 5: 5 .. 25. At place 5 the one leaves and 30 days are gone.
        Sentences.due("of the last works, kept", last.told(5, 0) >= last.told(4, 0) + 30, true);
    }

    private static void afterRefused() {
        Sentences.of("False: none such; they are one.");
        Twins.range("a", Twins::held, (plans, a) -> Twins.bit(plans.after(a, 0, 1)), 1, 2, NO);
        Twins.range("a before work 2", Twins::held, (plans, a) -> Twins.bit(plans.after(a, 2, 1)), 0, 1, NO);
        Twins.range("b", Twins::held, (plans, b) -> Twins.bit(plans.after(0, b, 1)), 1, 2, NO);
        Twins.range("b behind work 2", Twins::held, (plans, b) -> Twins.bit(plans.after(2, b, 1)), 0, 1, NO);
        Twins.range("days", Twins::held, (plans, days) -> Twins.bit(plans.after(2, 1, days)), 0, 30, NO);
        Twins.range("days, told before", Twins::held, (plans, days) -> Twins.bit(plans.after(0, 1, days)), 0, 30, NO);
        Twins.range("a of six", Twins::full, (plans, a) -> Twins.bit(plans.after(a, 0, 1)), 1, 5, NO);
        Twins.range("b of six", Twins::full, (plans, b) -> Twins.bit(plans.after(0, b, 1)), 1, 5, NO);
        for (int work = 0; work < 3; work++) {
            int one = work;
            Twins.refused("they are one: " + one, Twins::held, plans -> Twins.bit(plans.after(one, one, 1)), NO);
        }
        Twins.refused("no works", Twins::fourCrews, plans -> Twins.bit(plans.after(0, 1, 1)), NO);
        Twins.refused("a new object", Twins::empty, plans -> Twins.bit(plans.after(0, 1, 1)), NO);
    }

    private static void season() {
        Sentences.of("A work's season: days 0 <= first <= last <= 999.");
        PlaceTimePlans plans = Twins.one(10, 10, false);
        int[] first = {0, 0, 5, 99, 40, 0};
        int[] last = {999, 0, 5, 999, 40, 1};
        for (int which = 0; which < first.length; which++) {
            String what = first[which] + " .. " + last[which];
            Sentences.due(what, plans.season(0, first[which], last[which]), true);
            Sentences.due(what + ", END: no season told before holds", plans.run(ALL), first[which] + 1);
        }
        int[] never = {100, 999};
        for (int day : never) {
            Sentences.due("day " + day + " alone", plans.season(0, day, day), true);
            Sentences.due("day " + day + " alone, no plan", plans.run(ALL), BAD);
        }
        PlaceTimePlans other = Twins.two(10, 10);
        other.season(1, 5, 5);
        other.run(ALL);
        Sentences.due("of this work", other.told(1, 0), 5);
        Sentences.due("not of another one", other.told(0, 0), 0);
    }

    private static void seasonRefused() {
        Sentences.of("False: none such.");
        Twins.range("work", Twins::held, (plans, work) -> Twins.bit(plans.season(work, 9, 50)), 0, 2, NO);
        Twins.range("work of six", Twins::full, (plans, work) -> Twins.bit(plans.season(work, 9, 50)), 0, 5, NO);
        Twins.range("first", Twins::held, (plans, first) -> Twins.bit(plans.season(1, first, 50)), 0, 50, NO);
        Twins.range("first, up to 999", Twins::held, (plans, first) -> Twins.bit(plans.season(1, first, 999)), 0, 999,
                NO);
        Twins.range("last", Twins::held, (plans, last) -> Twins.bit(plans.season(1, 50, last)), 50, 999, NO);
        Twins.range("last, from 0", Twins::held, (plans, last) -> Twins.bit(plans.season(1, 0, last)), 0, 999, NO);
        Twins.refused("no works", Twins::fourCrews, plans -> Twins.bit(plans.season(0, 0, 999)), NO);
        Twins.refused("a new object", Twins::empty, plans -> Twins.bit(plans.season(0, 0, 999)), NO);
    }

    private static void bar() {
        Sentences.of("A place of a work (from .. to) is barred for it before a day 0 .. 999.");
        PlaceTimePlans plans = Twins.crews(2);
        plans.work(0, 10, 20, 5, false);
        plans.work(1, 10, 20, 5, false);
        Sentences.due("from", plans.bar(0, 10, 3), true);
        Sentences.due("from, END", plans.run(ALL), 5);
        Sentences.due("not of another work", plans.told(1, 0), 0);
        Sentences.due("to", plans.bar(0, 20, 6), true);
        Sentences.due("to, END", plans.run(ALL), 6);
        Sentences.due("of the same place, sooner", plans.bar(0, 20, 0), true);
        Sentences.due("each of them holds", plans.run(ALL), 6);
        Sentences.due("of the same place, later", plans.bar(0, 20, 7), true);
        Sentences.due("the later one holds", plans.run(ALL), 7);
        Sentences.due("each counts", plans.count(3), 4);
        Sentences.due("before day 999", plans.bar(1, 15, 999), true);
        Sentences.due("before day 999, no plan", plans.run(ALL), BAD);
    }

    private static void barRefused() {
        Sentences.of("False: none such; 8 were told.");
        Twins.range("work", Twins::held, (plans, work) -> Twins.bit(plans.bar(work, 16, 9)), 0, 2, NO);
        Twins.range("place of work 0", Twins::held, (plans, place) -> Twins.bit(plans.bar(0, place, 9)), 10, 20, NO);
        Twins.range("place of work 1", Twins::held, (plans, place) -> Twins.bit(plans.bar(1, place, 9)), 0, 30, NO);
        Twins.range("place of work 2", Twins::held, (plans, place) -> Twins.bit(plans.bar(2, place, 9)), 15, 25, NO);
        Twins.range("until", Twins::held, (plans, until) -> Twins.bit(plans.bar(0, 16, until)), 0, 999, NO);
        Twins.refused("no works", Twins::fourCrews, plans -> Twins.bit(plans.bar(0, 0, 1)), NO);
        Twins.refused("a new object", Twins::empty, plans -> Twins.bit(plans.bar(0, 0, 1)), NO);
        PlaceTimePlans plans = Twins.two(10, 10);
        for (int told = 0; told < 8; told++) {
            Sentences.due("told " + told, plans.bar(told % 2, told, 1), true);
            Sentences.due("so many", plans.count(3), told + 1);
        }
        Sentences.due("a ninth one", plans.bar(0, 9, 1), false);
        Sentences.due("still eight", plans.count(3), 8);
        Twins.refused("a ninth one, with a plan", Twins::full, full -> Twins.bit(full.bar(0, 10, 9)), NO);
        Twins.refused("a ninth one, told before", Twins::full, full -> Twins.bit(full.bar(0, 6, 0)), NO);
    }

    private static void rest() {
        Sentences.of("A day 0 .. 199 is a rest day.");
        PlaceTimePlans plans = Twins.one(10, 5, false);
        Sentences.due("day 1", plans.rest(1), true);
        Sentences.due("day 1, END", plans.run(ALL), 3);
        Sentences.due("day 0", plans.rest(0), true);
        Sentences.due("day 0, END", plans.run(ALL), 4);
        Sentences.due("day 199", plans.rest(199), true);
        Sentences.due("day 199, END", plans.run(ALL), 4);
        PlaceTimePlans all = Twins.resting();
        Sentences.due("all of them", all.count(2), 200);
        Sentences.due("all of them, no start", all.run(ALL), BAD);
        Sentences.due("all of them, tries", all.tried(), 200);
        Sentences.due("all of them, lone", all.lone(0), 0);
    }

    private static void restRefused() {
        Sentences.of("False: none such; it was.");
        Twins.range("day", Twins::held, (plans, day) -> Twins.bit(plans.rest(day)), 0, 199, NO);
        Twins.range("day of a new object", Twins::empty, (plans, day) -> Twins.bit(plans.rest(day)), 0, 199, NO);
        Twins.refused("day 3 was", Twins::held, plans -> Twins.bit(plans.rest(3)), NO);
        Twins.refused("day 150 was", Twins::again, plans -> Twins.bit(plans.rest(150)), NO);
        for (int day = 0; day < 200; day += 199) {
            int was = day;
            Twins.refused("all were, day " + day, Twins::resting, plans -> Twins.bit(plans.rest(was)), NO);
        }
        Twins.refused("all were, day 200", Twins::resting, plans -> Twins.bit(plans.rest(200)), NO);
    }

    private static void most() {
        Sentences.of("The most works of a kind under way on a day, 0 .. 6: what it was.");
        PlaceTimePlans plans = Twins.ofOneKind(3);
        int[] many = {0, 6, 1, 2, 3, 5};
        int[] ends = {BAD, 1, 3, 2, 1, 1};
        int was = 4;
        for (int which = 0; which < many.length; which++) {
            Sentences.due("told " + many[which], plans.most(0, many[which]), was);
            Sentences.due("END with " + many[which], plans.run(ALL), ends[which]);
            was = many[which];
        }
        for (int kind = 1; kind < 4; kind++) {
            Sentences.due("kind " + kind + " was", plans.most(kind, 6), 4);
            Sentences.due("kind " + kind + " was then", plans.most(kind, 0), 6);
        }
        Sentences.due("kind 0 has its own", plans.most(0, 4), 5);
        Sentences.due("without crews", new PlaceTimePlans().most(3, 2), 4);
    }

    private static void mostRefused() {
        Sentences.of("BAD: none such.");
        Twins.range("kind", Twins::held, (plans, kind) -> plans.most(kind, 1), 0, 3, BAD);
        Twins.range("many", Twins::held, (plans, many) -> plans.most(0, many), 0, 6, BAD);
        Twins.range("many of kind 3", Twins::full, (plans, many) -> plans.most(3, many), 0, 6, BAD);
        Twins.range("many, a new object", Twins::empty, (plans, many) -> plans.most(2, many), 0, 6, BAD);
    }

    private static void learned() {
        Sentences.of("So many places (1 .. 10,000) were done in so many days (1 .. 1,000): the work's speed is their "
                + "quotient, cut off, but 1 .. 50: that.");
        PlaceTimePlans plans = Twins.one(100, 5, false);
        int[] places = {1, 1, 10000, 10000, 50, 51, 99, 100, 101, 999, 1000, 1999, 2000, 49, 9999, 7};
        int[] days = {1, 1000, 1, 1000, 1, 1, 2, 2, 2, 1000, 1000, 1000, 1000, 1, 200, 2};
        int[] speeds = {1, 1, 50, 10, 50, 50, 49, 50, 50, 1, 1, 1, 2, 49, 49, 3};
        int[] ends = {100, 100, 2, 10, 2, 2, 3, 2, 2, 100, 100, 100, 50, 3, 3, 34};
        for (int which = 0; which < places.length; which++) {
            String what = places[which] + " in " + days[which];
            Sentences.due(what, plans.learned(0, places[which], days[which]), speeds[which]);
            Sentences.due(what + ", its days", plans.bound(), ends[which]);
            Sentences.due(what + ", END", plans.run(ALL), ends[which]);
        }
        PlaceTimePlans other = Twins.two(5, 5);
        other.learned(1, 1, 1);
        other.run(ALL);
        Sentences.due("of this work", other.told(1, 1), 10);
        Sentences.due("not of another one", other.told(0, 1), 2);
    }

    private static void learnedRefused() {
        Sentences.of("BAD: none such.");
        Twins.range("work", Twins::held, (plans, work) -> plans.learned(work, 30, 2), 0, 2, BAD);
        Twins.range("work of six", Twins::full, (plans, work) -> plans.learned(work, 30, 2), 0, 5, BAD);
        Twins.range("places", Twins::held, (plans, places) -> plans.learned(0, places, 2), 1, 10000, BAD);
        Twins.range("days", Twins::held, (plans, days) -> plans.learned(0, 30, days), 1, 1000, BAD);
        Twins.refused("no works", Twins::fourCrews, plans -> plans.learned(0, 1, 1), BAD);
        Twins.refused("a new object", Twins::empty, plans -> plans.learned(0, 1, 1), BAD);
    }
}
