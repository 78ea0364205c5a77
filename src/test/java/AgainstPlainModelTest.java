import java.util.Random;

/** Many runs of drawn calls on the class and on the plain model, whose answers must be alike. */
public final class AgainstPlainModelTest {
    private static final int RUNS = 400;
    private static final int[] ODD_NUMBERS = {-1, -2, Integer.MIN_VALUE, Integer.MAX_VALUE, 1000000, 201, 1000, 51};

    private final Random random;
    private final PlaceTimePlans plans = new PlaceTimePlans();
    private final PlainModel model = new PlainModel();
    private final StringBuilder calls = new StringBuilder();
    private final int hardness;
    /** Works of like places and speeds meet at the ends of days, where arriving and leaving differ. */
    private final boolean alike;
    private boolean wrong;
    static int plansFound;
    static int replansFound;
    static int crossings;
    static int slacks;

    private AgainstPlainModelTest(int seed) {
        random = new Random(seed);
        hardness = seed % 4;
        alike = seed % 3 == 0;
    }

    public static void main(String[] args) {
        int runs = args.length > 0 ? Integer.parseInt(args[0]) : RUNS;
        int first = args.length > 1 ? Integer.parseInt(args[1]) : 0;
        int wrongRuns = 0;
        for (int seed = first; seed < first + runs && wrongRuns < 5; seed++) {
            if (!new AgainstPlainModelTest(seed).isAlike()) {
                wrongRuns++;
                System.out.println("the run with seed " + seed + " is not alike");
            }
        }
        System.out.println(runs + " runs: " + plansFound + " plans, " + replansFound + " plans made again, "
                + crossings + " crossings, " + slacks + " slacks above 0");
        if (wrongRuns != 0 || plansFound < runs || replansFound < runs / 4 || crossings == 0 || slacks == 0) {
            System.exit(1);
        }
    }

    private boolean isAlike() {
        int crews = 1 + random.nextInt(4);
        for (int crew = 0; crew < crews; crew++) {
            tell(0);
        }
        int works = 1 + random.nextInt(5);
        for (int work = 0; work < works; work++) {
            tell(1);
        }
        int rules = random.nextInt(3 + 4 * hardness);
        for (int rule = 0; rule < rules; rule++) {
            tell(2 + random.nextInt(5));
        }
        for (int call = 0; call < 120 && !wrong; call++) {
            int which = random.nextInt(100);
            if (which < 4) {
                tell(random.nextInt(8));
            } else if (which < 20) {
                seek(which < 12);
            } else {
                ask();
            }
        }
        return !wrong;
    }

    private int pick(int least, int greatest) {
        if (random.nextInt(60) == 0) {
            return ODD_NUMBERS[random.nextInt(ODD_NUMBERS.length)];
        }
        if (random.nextInt(40) == 0) {
            return greatest + 1;
        }
        if (random.nextInt(12) == 0) {
            return random.nextBoolean() ? least : greatest;
        }
        return least + random.nextInt(greatest - least + 1);
    }

    private int someWork() {
        return pick(0, Math.max(0, model.jobs.size() - 1));
    }

    private int somePlace(int work) {
        if (work < 0 || work >= model.jobs.size() || random.nextInt(20) == 0) {
            return pick(0, 200);
        }
        return pick(model.jobs.get(work).from, model.jobs.get(work).to);
    }

    private void due(String call, long got, long want) {
        calls.append("  ").append(call).append(" = ").append(want).append('\n');
        if (got != want && !wrong) {
            wrong = true;
            System.out.println(calls + "  answered " + got);
        }
    }

    private void due(String call, boolean got, boolean want) {
        due(call, got ? 1 : 0, want ? 1 : 0);
    }

    private void tell(int which) {
        int a = someWork();
        switch (which) {
            case 0: {
                int kind = pick(0, 3);
                due("crew(" + kind + ")", plans.crew(kind), model.crew(kind));
                break;
            }
            case 1:
                tellWork();
                break;
            case 2: {
                int b = someWork();
                int days = random.nextInt(3) == 0 ? pick(0, 30) : alike ? 0 : pick(0, 4);
                due("after(" + a + "," + b + "," + days + ")", plans.after(a, b, days), model.after(a, b, days));
                break;
            }
            case 3: {
                int first = pick(0, 40);
                int last = random.nextBoolean() ? pick(20, 999) : pick(30, 120);
                due("season(" + a + "," + first + "," + last + ")", plans.season(a, first, last),
                        model.season(a, first, last));
                break;
            }
            case 4: {
                int place = somePlace(a);
                int until = random.nextInt(5) == 0 ? pick(0, 999) : pick(0, 40);
                due("bar(" + a + "," + place + "," + until + ")", plans.bar(a, place, until),
                        model.bar(a, place, until));
                break;
            }
            case 5: {
                int many = random.nextInt(4) == 0 ? 20 : 1;
                for (int time = 0; time < many; time++) {
                    int day = alike ? pick(0, 9) : random.nextBoolean() ? pick(0, 30) : pick(0, 199);
                    due("rest(" + day + ")", plans.rest(day), model.rest(day));
                }
                break;
            }
            case 6: {
                int kind = pick(0, 3);
                int many = random.nextInt(5) == 0 ? pick(0, 6) : pick(1, 3);
                due("most(" + kind + "," + many + ")", plans.most(kind, many), model.most(kind, many));
                break;
            }
            default: {
                int places = random.nextBoolean() ? pick(1, 10000) : pick(1, 100);
                int days = random.nextBoolean() ? pick(1, 1000) : pick(1, 9);
                due("learned(" + a + "," + places + "," + days + ")", plans.learned(a, places, days),
                        model.learned(a, places, days));
            }
        }
    }

    private void tellWork() {
        int crew = pick(0, Math.max(0, model.kinds.size() - 1));
        boolean isShort = alike || random.nextBoolean();
        int from = alike ? pick(0, 1) : isShort ? pick(0, 15) : pick(0, 150);
        int to = isShort ? pick(10, 40) : pick(20, 200);
        int speed = random.nextInt(4) == 0 ? pick(1, 50) : alike ? pick(4, 5) : pick(1, 12);
        boolean both = random.nextBoolean();
        due("work(" + crew + "," + from + "," + to + "," + speed + "," + both + ")",
                plans.work(crew, from, to, speed, both), model.work(crew, from, to, speed, both));
    }

    private void seek(boolean first) {
        int tries = random.nextInt(6) == 0 ? pick(1, 20000) : pick(1, 3000);
        if (first) {
            int end = model.run(tries);
            due("run(" + tries + ")", plans.run(tries), end);
            plansFound += end > 0 ? 1 : 0;
        } else {
            int moves = model.replan(tries);
            due("replan(" + tries + ")", plans.replan(tries), moves);
            replansFound += moves > 0 ? 1 : 0;
        }
        due("proved()", plans.proved(), model.proved());
        due("tried()", plans.tried(), model.tried());
        for (int work = 0; work < model.jobs.size(); work++) {
            for (int what = 0; what < 3; what++) {
                due("told(" + work + "," + what + ")", plans.told(work, what), model.told(work, what));
            }
            due("moved(" + work + ")", plans.moved(work), model.moved(work));
            due("slack(" + work + ")", plans.slack(work), model.slack(work));
            slacks += model.slack(work) > 0 ? 1 : 0;
        }
    }

    private void ask() {
        int a = someWork();
        int b = someWork();
        int day = random.nextInt(3) == 0 ? pick(0, 400) : pick(0, 60);
        int what = pick(0, 5);
        switch (random.nextInt(14)) {
            case 0:
                due("told(" + a + "," + what + ")", plans.told(a, what), model.told(a, what));
                break;
            case 1:
                due("at(" + a + "," + day + ")", plans.at(a, day), model.at(a, day));
                break;
            case 2:
                askPasses(a, somePlace(a));
                break;
            case 3:
                due("crosses(" + a + "," + b + ")", plans.crosses(a, b), model.crosses(a, b));
                crossings += model.crosses(a, b) ? 1 : 0;
                break;
            case 4: {
                int kind = pick(0, 3);
                due("under(" + kind + "," + day + ")", plans.under(kind, day), model.under(kind, day));
                break;
            }
            case 5:
                due("bound()", plans.bound(), model.bound());
                break;
            case 6: {
                int k = pick(0, 2);
                due("lone(" + k + ")", plans.lone(k), model.lone(k));
                break;
            }
            case 7: {
                int days = random.nextInt(4) == 0 ? pick(0, 100) : pick(0, 9);
                due("late(" + a + "," + days + ")", plans.late(a, days), model.late(a, days));
                break;
            }
            case 8: {
                int before = random.nextInt(3) == 0 ? day : pick(0, 12);
                due("freeze(" + before + ")", plans.freeze(before), model.freeze(before));
                break;
            }
            case 9:
                due("moved(" + a + ")", plans.moved(a), model.moved(a));
                break;
            case 10:
                due("slack(" + a + ")", plans.slack(a), model.slack(a));
                break;
            case 11: {
                int until = random.nextBoolean() ? pick(0, 600) : pick(10, 80);
                int draws = pick(1, 50);
                int chance = pick(0, 90);
                int seed = random.nextInt();
                due("odds(" + until + "," + draws + "," + chance + "," + seed + ")",
                        plans.odds(until, draws, chance, seed), model.odds(until, draws, chance, seed));
                break;
            }
            default:
                due("count(" + what + ")", plans.count(what), model.count(what));
        }
    }

    private void askPasses(int work, int place) {
        boolean leaves = random.nextBoolean();
        for (int part = -1; part <= 2; part++) {
            due("passes(" + work + "," + place + "," + leaves + "," + part + ")",
                    plans.passes(work, place, leaves, part), model.passes(work, place, leaves, part));
        }
    }
}
