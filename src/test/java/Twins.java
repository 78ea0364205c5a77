/**
 * Objects in the states that refused calls meet. What a call has left as it was is seen by a twin, told all the same
 * but that one call: both must answer alike to all that can be asked, and to all that is told and searched then.
 */
final class Twins {
    static final int BAD = PlaceTimePlans.BAD;
    static final int NO = 0;
    static final int YES = 1;
    static final int ALL = 20000;

    interface Told {
        PlaceTimePlans make();
    }

    interface Call {
        int on(PlaceTimePlans plans);
    }

    interface NumberCall {
        int on(PlaceTimePlans plans, int number);
    }

    private Twins() {
    }

    static int bit(boolean yes) {
        return yes ? YES : NO;
    }

    static PlaceTimePlans empty() {
        return new PlaceTimePlans();
    }

    /** Crews 0 and on of kinds 0 and on. */
    static PlaceTimePlans crews(int many) {
        PlaceTimePlans plans = new PlaceTimePlans();
        for (int kind = 0; kind < many; kind++) {
            plans.crew(kind);
        }
        return plans;
    }

    static PlaceTimePlans fourCrews() {
        return crews(4);
    }

    /** One work alone, from place 0. */
    static PlaceTimePlans one(int to, int speed, boolean both) {
        PlaceTimePlans plans = crews(1);
        plans.work(0, 0, to, speed, both);
        return plans;
    }

    /** Works of one day each, of so many crews, which are all of kind 0. */
    static PlaceTimePlans ofOneKind(int many) {
        PlaceTimePlans plans = new PlaceTimePlans();
        for (int crew = 0; crew < many; crew++) {
            plans.crew(0);
            plans.work(crew, 0, 10, 10, false);
        }
        return plans;
    }

    /** Two works of two crews, forward alone, from 0 to 10. */
    static PlaceTimePlans two(int speed, int speedOfNext) {
        PlaceTimePlans plans = crews(2);
        plans.work(0, 0, 10, speed, false);
        plans.work(1, 0, 10, speedOfNext, false);
        return plans;
    }

    /** Two works of one crew, from 0 to 10. */
    static PlaceTimePlans twoOfOneCrew(int speed, int speedOfNext) {
        PlaceTimePlans plans = crews(1);
        plans.work(0, 0, 10, speed, false);
        plans.work(0, 0, 10, speedOfNext, false);
        return plans;
    }

    /** Backward from 20 to 10 with 4 places a day, on the days 0, 2 and 3. */
    static PlaceTimePlans goingBack() {
        PlaceTimePlans plans = crews(1);
        plans.work(0, 10, 20, 4, true);
        plans.bar(0, 10, 2);
        plans.rest(1);
        plans.run(ALL);
        return plans;
    }

    /**
     * Work 0 goes backward on the days 1 and 2, work 1 behind it on the days 3 and 4; if work 0 is late by a day, work 1
     * can go no other way than backward, too.
     */
    static PlaceTimePlans turning() {
        PlaceTimePlans plans = crews(2);
        plans.work(0, 0, 10, 5, true);
        plans.work(1, 0, 10, 5, true);
        plans.after(0, 1, 0);
        plans.season(0, 0, 3);
        plans.bar(0, 0, 3);
        plans.season(1, 3, 4);
        plans.run(ALL);
        return plans;
    }

    /** The same, made again with both works moved. */
    static PlaceTimePlans bothMoved() {
        PlaceTimePlans plans = turning();
        plans.late(0, 1);
        plans.replan(ALL);
        return plans;
    }

    /** Two works, of which the second one overtakes the first one. */
    static PlaceTimePlans crossing() {
        PlaceTimePlans plans = crews(2);
        plans.work(0, 0, 20, 5, false);
        plans.work(1, 0, 20, 10, false);
        plans.season(1, 1, 999);
        plans.run(ALL);
        return plans;
    }

    static PlaceTimePlans onePlanned() {
        PlaceTimePlans plans = one(10, 5, false);
        plans.run(ALL);
        return plans;
    }

    /** Three crews and works, something told of each kind, and no plan. Places 15 .. 20 are common to all works. */
    static PlaceTimePlans told() {
        PlaceTimePlans plans = crews(3);
        plans.work(0, 10, 20, 4, true);
        plans.work(1, 0, 30, 7, false);
        plans.work(0, 15, 25, 5, true);
        plans.after(0, 1, 1);
        plans.season(2, 1, 60);
        plans.bar(1, 5, 2);
        plans.rest(3);
        plans.rest(150);
        plans.most(1, 2);
        return plans;
    }

    static PlaceTimePlans planned() {
        PlaceTimePlans plans = told();
        plans.run(ALL);
        return plans;
    }

    /** With a plan of a search that was cut off. */
    static PlaceTimePlans cutOff() {
        PlaceTimePlans plans = told();
        plans.run(30);
        return plans;
    }

    /** With a plan, one work frozen and one late. */
    static PlaceTimePlans held() {
        PlaceTimePlans plans = planned();
        plans.freeze(1);
        plans.late(1, 2);
        return plans;
    }

    /** With a plan that was made again. */
    static PlaceTimePlans again() {
        PlaceTimePlans plans = held();
        plans.replan(ALL);
        return plans;
    }

    /** With a plan behind which a search found none. */
    static PlaceTimePlans stuck() {
        PlaceTimePlans plans = planned();
        plans.late(0, 100);
        plans.run(ALL);
        return plans;
    }

    /** As many crews, works and bars as there may be, and a plan. */
    static PlaceTimePlans full() {
        PlaceTimePlans plans = crews(4);
        for (int work = 0; work < 6; work++) {
            plans.work(work % 4, work, 20 + work, 4 + work, work % 2 == 0);
        }
        for (int bar = 0; bar < 8; bar++) {
            plans.bar(bar % 6, 6 + bar, bar % 3);
        }
        plans.run(3000);
        return plans;
    }

    /** All days that can be rest days are. */
    static PlaceTimePlans resting() {
        PlaceTimePlans plans = one(10, 5, true);
        for (int day = 0; day < 200; day++) {
            plans.rest(day);
        }
        return plans;
    }

    /** A call is refused, and nothing has changed behind it. */
    static void refused(String what, Told state, Call call, int refusal) {
        PlaceTimePlans plans = state.make();
        Sentences.due(what, call.on(plans), refusal);
        alike(what + ", behind it", plans, state.make());
    }

    /** A call asks alone: whatever it answers, nothing has changed behind it. */
    static void changesNothing(String what, Told state, Call call) {
        PlaceTimePlans plans = state.make();
        call.on(plans);
        alike(what + ", behind it", plans, state.make());
    }

    /** A number is taken from the least to the greatest one and refused outside, with nothing changed behind it. */
    static void range(String what, Told state, NumberCall call, int least, int greatest, int refusal) {
        Sentences.due(what + " " + least + " is taken", call.on(state.make(), least) != refusal, true);
        Sentences.due(what + " " + greatest + " is taken", call.on(state.make(), greatest) != refusal, true);
        int[] outside = {least - 1, greatest + 1, -1, Integer.MIN_VALUE, Integer.MAX_VALUE};
        for (int number : outside) {
            if (number < least || number > greatest) {
                refused(what + " " + number, state, plans -> call.on(plans, number), refusal);
            }
        }
    }

    private static void alike(String what, PlaceTimePlans plans, PlaceTimePlans twin) {
        Sentences.due(what, everything(plans), everything(twin));
        Sentences.due(what + ", then", afterwards(plans), afterwards(twin));
    }

    /** All that can be asked, without a change. */
    private static String everything(PlaceTimePlans plans) {
        StringBuilder answers = new StringBuilder(briefly(plans));
        answers.append(" bound ").append(plans.bound()).append(" lone");
        for (int k = 0; k < 3; k++) {
            answers.append(' ').append(plans.lone(k));
        }
        for (int work = 0; work < 6; work++) {
            answers.append(" of ").append(work).append(": ").append(plans.told(work, 1));
            answers.append(' ').append(plans.slack(work));
            answers.append(' ').append(plans.at(work, 4)).append(' ').append(plans.at(work, 7));
            answers.append(' ').append(plans.passes(work, 15, true, 0));
            answers.append(' ').append(plans.passes(work, 15, false, 1));
            answers.append(' ').append(plans.crosses(work, (work + 1) % 6));
        }
        for (int kind = 0; kind < 4; kind++) {
            answers.append(" under ").append(plans.under(kind, 0)).append(' ').append(plans.under(kind, 5));
        }
        return answers.append(" odds ").append(plans.odds(12, 20, 30, 7)).toString();
    }

    private static String briefly(PlaceTimePlans plans) {
        StringBuilder answers = new StringBuilder("counts");
        for (int what = 0; what < 6; what++) {
            answers.append(' ').append(plans.count(what));
        }
        answers.append(" proved ").append(plans.proved()).append(" tried ").append(plans.tried()).append(" plan");
        for (int work = 0; work < 6; work++) {
            answers.append(' ').append(plans.told(work, 0)).append('/').append(plans.told(work, 2));
            answers.append(plans.moved(work) ? "m" : "");
        }
        return answers.toString();
    }

    /** What was told and can't be asked for comes out by what is searched and told next. */
    private static String afterwards(PlaceTimePlans plans) {
        StringBuilder answers = new StringBuilder();
        answers.append("replan ").append(plans.replan(700)).append(' ').append(briefly(plans));
        answers.append(" run ").append(plans.run(1500)).append(' ').append(briefly(plans));
        for (int kind = 0; kind < 4; kind++) {
            answers.append(" most ").append(plans.most(kind, 3));
        }
        answers.append(" run ").append(plans.run(1500)).append(' ').append(briefly(plans));
        answers.append(" crew ").append(plans.crew(1)).append(" work ").append(plans.work(0, 5, 45, 6, true));
        return answers.append(" run ").append(plans.run(1500)).append(' ').append(briefly(plans)).toString();
    }
}
