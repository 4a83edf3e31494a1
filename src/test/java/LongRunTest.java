import java.util.HashMap;
import java.util.Map;

/**
 * Long runs of calls, most of them fitting, some wild, each answer and all that can be asked behind
 * it compared with the model: so a call that throws must have changed nothing either. The numbers
 * come from a fixed row, so that each run is the same every time.
 */
public final class LongRunTest {
    private static final Checks CHECKS = new Checks("LongRunTest");
    private static final int RUNS = 400;
    private static final int CALLS = 512;
    private static final String[] NAMES = {
        "setSort", "setRisk", "setGuarantee", "announce", "amend", "arrive", "risk", "mustSearch", "search", "bond",
        "move", "free", "sendBack", "state", "manifest", "stored", "held", "paid"};
    private static final int[] OFTEN = {2, 1, 2, 4, 12, 6, 1, 1, 14, 10, 8, 10, 8, 1, 1, 1, 1, 1};
    private static final int[] WILD = {-1, 0, 3, 4, 6, 11, 15, 21, 51, 101, 201, 1000, 1000001,
        Integer.MIN_VALUE, Integer.MAX_VALUE};

    private static long row = 20261118;
    private static final Map<String, Integer> ANSWERED = new HashMap<>();

    public static void main(String[] args) {
        for (int run = 0; run < RUNS; run++) {
            oneRun(run);
        }
        everyOutcomeWasSeen();
        CHECKS.finish();
    }

    private static int below(int bound) {
        row = row * 6364136223846793005L + 1442695040888963407L;
        return (int) ((row >>> 33) % bound);
    }

    private static void oneRun(int run) {
        BorderHouse house = new BorderHouse();
        Model model = new Model();
        // Few quantities make exact fits frequent, many make the sums large.
        int units = run % 2 == 0 ? 4 : 101;
        for (int k = 0; k < CALLS; k++) {
            String name = pickName();
            int[] args = pickArguments(name, units);
            Object want = model.call(name, args[0], args[1], args[2], args[3], args[4]);
            String what = "run " + run + " call " + k + " " + told(name, args);
            CHECKS.due(what, want, () -> answer(house, name, args));
            String outcome = name + (want instanceof String ? " " + want : " answers");
            ANSWERED.merge(outcome, 1, Integer::sum);
            if (k % 8 == 0 || want instanceof String) {
                compareAll(what, house, model);
            }
        }
    }

    private static String pickName() {
        int sum = 0;
        for (int often : OFTEN) {
            sum += often;
        }
        int left = below(sum);
        for (int k = 0; k < NAMES.length; k++) {
            left -= OFTEN[k];
            if (left < 0) {
                return NAMES[k];
            }
        }
        throw new AssertionError();
    }

    private static int[] pickArguments(String name, int units) {
        int consignment = below(15);
        int sort = below(6);
        int store = below(3);
        int[] args;
        switch (name) {
            case "setSort": args = new int[] {sort, below(51), below(21), 0, 0}; break;
            case "setRisk": args = new int[] {below(4) == 0 ? below(20) : 20 + below(60), below(11), 0, 0, 0}; break;
            case "setGuarantee": args = new int[] {below(4), below(100) * 20 * units, 0, 0, 0}; break;
            case "announce": args = new int[] {below(4), below(2), 0, 0, 0}; break;
            case "amend": args = new int[] {consignment, sort, below(units), 0, 0}; break;
            case "arrive": args = new int[] {consignment, below(2), 0, 0, 0}; break;
            case "search": args = new int[] {consignment, sort, below(units), 0, 0}; break;
            case "bond": args = new int[] {consignment, store, 0, 0, 0}; break;
            case "move": args = new int[] {consignment, sort, store, below(3), 1 + below(units - 1), 0}; break;
            case "free":
            case "sendBack": args = new int[] {consignment, sort, store, 1 + below(units - 1), 0}; break;
            case "manifest": args = new int[] {consignment, sort, 0, 0, 0}; break;
            case "stored": args = new int[] {sort, store, 0, 0, 0}; break;
            case "held":
            case "paid": args = new int[] {below(4), 0, 0, 0, 0}; break;
            default: args = new int[] {consignment, 0, 0, 0, 0}; break;
        }
        while (below(12) == 0) {
            args[below(5)] = WILD[below(WILD.length)];
        }
        return args;
    }

    private static Object answer(BorderHouse house, String name, int[] a) {
        switch (name) {
            case "setSort":
                house.setSort(a[0], a[1], a[2]);
                return "nothing";
            case "setRisk": return house.setRisk(a[0], a[1]);
            case "setGuarantee": return house.setGuarantee(a[0], a[1]);
            case "announce": return house.announce(a[0], a[1]);
            case "amend": return house.amend(a[0], a[1], a[2]);
            case "arrive": return house.arrive(a[0], a[1]);
            case "risk": return house.risk(a[0]);
            case "mustSearch": return house.mustSearch(a[0]);
            case "search": return house.search(a[0], a[1], a[2]);
            case "bond": return house.bond(a[0], a[1]);
            case "move": return house.move(a[0], a[1], a[2], a[3], a[4]);
            case "free": return house.free(a[0], a[1], a[2], a[3]);
            case "sendBack": return house.sendBack(a[0], a[1], a[2], a[3]);
            case "state": return house.state(a[0]);
            case "manifest": return house.manifest(a[0], a[1]);
            case "stored": return house.stored(a[0], a[1]);
            case "held": return house.held(a[0]);
            case "paid": return house.paid(a[0]);
            default: throw new AssertionError(name);
        }
    }

    private static void compareAll(String behind, BorderHouse house, Model model) {
        for (int consignment = 0; consignment < 15; consignment++) {
            compare(behind, house, model, "state", consignment, 0);
            compare(behind, house, model, "risk", consignment, 0);
            compare(behind, house, model, "mustSearch", consignment, 0);
            for (int sort = 0; sort < 6; sort++) {
                compare(behind, house, model, "manifest", consignment, sort);
            }
        }
        for (int sort = 0; sort < 6; sort++) {
            for (int store = 0; store < 3; store++) {
                compare(behind, house, model, "stored", sort, store);
            }
        }
        for (int trader = 0; trader < 4; trader++) {
            compare(behind, house, model, "held", trader, 0);
            compare(behind, house, model, "paid", trader, 0);
        }
    }

    private static void compare(String behind, BorderHouse house, Model model, String name, int a, int b) {
        Object want = model.call(name, a, b, 0, 0, 0);
        Object got = Checks.outcome(() -> answer(house, name, new int[] {a, b, 0, 0, 0}));
        if (!want.equals(got)) {
            CHECKS.due("behind " + behind + ": " + name + "(" + a + ", " + b + ")", want, () -> got);
        }
    }

    private static String told(String name, int[] args) {
        StringBuilder text = new StringBuilder(name);
        for (int k = 0; k < 5; k++) {
            text.append(k == 0 ? "(" : ", ").append(args[k]);
        }
        return text.append(")").toString();
    }

    /** Long runs that never reach an outcome would say nothing about it. */
    private static void everyOutcomeWasSeen() {
        for (String name : NAMES) {
            boolean takesConsignment = !"setSort setRisk setGuarantee announce stored held paid".contains(name);
            boolean hasState = "setGuarantee announce amend arrive risk search bond move free sendBack".contains(name);
            boolean hasArgument = !"risk mustSearch state".contains(name);
            seen(name + ("setSort".equals(name) ? " nothing" : " answers"));
            if (takesConsignment) {
                seen(name + " " + Model.INDEX);
            }
            if (hasArgument) {
                seen(name + " " + Model.ARGUMENT);
            }
            if (hasState) {
                seen(name + " " + Model.STATE);
            }
        }
    }

    private static void seen(String outcome) {
        CHECKS.due("seen often enough: " + outcome, true, () -> ANSWERED.getOrDefault(outcome, 0) >= 20);
    }
}
