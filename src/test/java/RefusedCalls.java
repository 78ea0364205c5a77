/** Calls that are refused in whatever state they come, and questions, which change nothing in any. */
final class RefusedCalls {
    private static final String[] STATES = {"a new object", "crews alone", "told", "planned", "cut off", "held",
        "made again", "stuck", "full", "all days rest days"};
    private static final Twins.Told[] MAKERS = {Twins::empty, Twins::fourCrews, Twins::told, Twins::planned,
        Twins::cutOff, Twins::held, Twins::again, Twins::stuck, Twins::full, Twins::resting};

    private RefusedCalls() {
    }

    static void all() {
        Sentences.together("The states are what their names say.");
        states();
        Sentences.together("A refused call changes nothing.");
        refusedTelling();
        refusedAsking();
        Sentences.together("A question changes nothing.");
        asking();
    }

    /** Without these the calls below would prove nothing. */
    private static void states() {
        Sentences.due("told, no plan", Twins.told().count(5), Twins.BAD);
        Sentences.due("planned", Twins.planned().count(5) > 0 && Twins.planned().proved(), true);
        Sentences.due("cut off", Twins.cutOff().count(5) > 0 && !Twins.cutOff().proved(), true);
        Sentences.due("held, frozen", Twins.held().count(4), 1);
        Sentences.due("held, late", Twins.held().replan(Twins.ALL), 1);
        Sentences.due("made again", Twins.again().moved(1), true);
        Sentences.due("stuck, END", Twins.stuck().count(5), Twins.planned().count(5));
        Sentences.due("stuck, late", Twins.stuck().replan(Twins.ALL), Twins.BAD);
        Sentences.due("full", Twins.full().count(5) > 0, true);
        Sentences.due("full, crews, works and bars", Twins.full().count(0) + Twins.full().count(1)
                + Twins.full().count(3), 4 + 6 + 8);
        Sentences.due("all days rest days", Twins.resting().count(2), 200);
    }

    private static void everywhere(String what, Twins.Call call, int refusal) {
        for (int state = 0; state < STATES.length; state++) {
            Twins.refused(what + ", " + STATES[state], MAKERS[state], call, refusal);
        }
    }

    private static void refusedTelling() {
        everywhere("crew(-1)", plans -> plans.crew(-1), Twins.BAD);
        everywhere("crew(4)", plans -> plans.crew(4), Twins.BAD);
        everywhere("work of crew 4", plans -> plans.work(4, 0, 10, 5, true), Twins.BAD);
        everywhere("work to itself", plans -> plans.work(0, 5, 5, 5, true), Twins.BAD);
        everywhere("work with speed 51", plans -> plans.work(0, 0, 10, 51, true), Twins.BAD);
        everywhere("after of one work", plans -> Twins.bit(plans.after(0, 0, 1)), Twins.NO);
        everywhere("after by 31 days", plans -> Twins.bit(plans.after(0, 1, 31)), Twins.NO);
        everywhere("season the other way round", plans -> Twins.bit(plans.season(0, 9, 8)), Twins.NO);
        everywhere("season up to 1000", plans -> Twins.bit(plans.season(0, 0, 1000)), Twins.NO);
        everywhere("bar of work 6", plans -> Twins.bit(plans.bar(6, 15, 9)), Twins.NO);
        everywhere("bar before day 1000", plans -> Twins.bit(plans.bar(0, 15, 1000)), Twins.NO);
        everywhere("rest(200)", plans -> Twins.bit(plans.rest(200)), Twins.NO);
        everywhere("rest(-1)", plans -> Twins.bit(plans.rest(-1)), Twins.NO);
        everywhere("most of kind 4", plans -> plans.most(4, 0), Twins.BAD);
        everywhere("most 7", plans -> plans.most(0, 7), Twins.BAD);
        everywhere("learned from 0 places", plans -> plans.learned(0, 0, 1), Twins.BAD);
        everywhere("learned in 0 days", plans -> plans.learned(0, 1, 0), Twins.BAD);
        everywhere("late by 101 days", plans -> Twins.bit(plans.late(0, 101)), Twins.NO);
        everywhere("late by -1 days", plans -> Twins.bit(plans.late(0, -1)), Twins.NO);
        everywhere("late of work 6", plans -> Twins.bit(plans.late(6, 9)), Twins.NO);
        everywhere("freeze(-1)", plans -> plans.freeze(-1), Twins.BAD);
        everywhere("run(0)", plans -> plans.run(0), Twins.BAD);
        everywhere("run(20001)", plans -> plans.run(20001), Twins.BAD);
        everywhere("replan(0)", plans -> plans.replan(0), Twins.BAD);
        everywhere("replan(20001)", plans -> plans.replan(20001), Twins.BAD);
    }

    private static void refusedAsking() {
        everywhere("told 3", plans -> plans.told(0, 3), Twins.BAD);
        everywhere("told of work 6", plans -> plans.told(6, 0), Twins.BAD);
        everywhere("at day -1", plans -> plans.at(0, -1), Twins.BAD);
        everywhere("passes place 201", plans -> plans.passes(0, 201, true, 0), Twins.BAD);
        everywhere("passes, part 2", plans -> plans.passes(0, 15, true, 2), Twins.BAD);
        everywhere("crosses work 6", plans -> Twins.bit(plans.crosses(0, 6)), Twins.NO);
        everywhere("under of kind 4", plans -> plans.under(4, 0), Twins.BAD);
        everywhere("under on day -1", plans -> plans.under(0, -1), Twins.BAD);
        everywhere("lone(-1)", plans -> plans.lone(-1), Twins.BAD);
        everywhere("lone(6)", plans -> plans.lone(6), Twins.BAD);
        everywhere("moved(6)", plans -> Twins.bit(plans.moved(6)), Twins.NO);
        everywhere("slack(6)", plans -> plans.slack(6), Twins.BAD);
        everywhere("odds of 51 draws", plans -> plans.odds(9, 51, 20, 7), Twins.BAD);
        everywhere("odds with chance 91", plans -> plans.odds(9, 5, 91, 7), Twins.BAD);
        everywhere("odds on day -1", plans -> plans.odds(-1, 5, 20, 7), Twins.BAD);
        everywhere("count(6)", plans -> plans.count(6), Twins.BAD);
        everywhere("count(-1)", plans -> plans.count(-1), Twins.BAD);
    }

    private static void ask(String what, Twins.Call call) {
        for (int state = 0; state < STATES.length; state++) {
            Twins.changesNothing(what + ", " + STATES[state], MAKERS[state], call);
        }
    }

    private static void asking() {
        ask("proved", plans -> Twins.bit(plans.proved()));
        ask("tried", plans -> plans.tried());
        ask("told", plans -> plans.told(0, 1));
        ask("at", plans -> plans.at(0, 3));
        ask("passes", plans -> plans.passes(0, 15, true, 1));
        ask("crosses", plans -> Twins.bit(plans.crosses(0, 1)));
        ask("under", plans -> plans.under(0, 2));
        ask("bound", plans -> plans.bound());
        ask("lone", plans -> plans.lone(0));
        ask("moved", plans -> Twins.bit(plans.moved(1)));
        ask("slack", plans -> plans.slack(0));
        ask("odds", plans -> plans.odds(15, 50, 50, -9));
        ask("count", plans -> plans.count(5));
    }
}
