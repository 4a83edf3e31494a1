import java.util.HashMap;
import java.util.Map;

/**
 * Long runs of calls, most of them fitting, some wild, each answer and all that can be asked behind
 * it compared with the model: so a call that throws must have changed nothing either. The numbers
 * come from a fixed row, so that each run is the same every time.
 */
public final class LongRunTest {
    private static final Checks CHECKS = new Checks("LongRunTest");
    private static final int RUNS = 300;
    private static final int CALLS = 512;
    private static final String[] NAMES = Calls.FACE.keySet().toArray(new String[0]);
    /** How often each method is called, in the order of the face. */
    private static final int[] OFTEN = {2, 1, 2, 4, 12, 6, 1, 1, 14, 10, 8, 10, 8, 1, 1, 1, 1, 1};
    private static final int[] WILD = {-1, 0, 3, 4, 6, 11, 15, 21, 51, 101, 201, 1000, 1000001,
        Integer.MIN_VALUE, Integer.MAX_VALUE};

    private static long row = 20261118;
    private static final Map<String, Integer> ANSWERED = new HashMap<>();

    public static void main(String[] args) {
        for (int run = 0; run < RUNS; run++) {
            oneRun(run);
        }
        everyOutcomeWasSeen();
        CHECKS.finish();
    }

    private static int below(int bound) {
        row = row * 6364136223846793005L + 1442695040888963407L;
        return (int) ((row >>> 33) % bound);
    }

    private static void oneRun(int run) {
        Calls.Target house = Calls.of(new BorderHouse());
        Calls.Target model = Calls.of(new Model());
        // Few quantities make exact fits frequent, many make the sums large.
        int units = run % 2 == 0 ? 4 : 101;
        for (int k = 0; k < CALLS; k++) {
            String name = pickName();
            int[] args = pickArguments(name, units);
            Object want = model.call(name, args);
            String what = "run " + run + " call " + k + " " + Calls.told(name, args);
            CHECKS.due(what, want, () -> house.call(name, args));
            String outcome = name + (want instanceof String ? " " + want : " answers");
            ANSWERED.merge(outcome, 1, Integer::sum);
            if (k % 8 == 0 || want instanceof String) {
                CHECKS.due("behind " + what, "the same",
                        () -> Probe.difference(Probe.questions(house), Probe.questions(model)));
            }
        }
    }

    private static String pickName() {
        int sum = 0;
        for (int often : OFTEN) {
            sum += often;
        }
        int left = below(sum);
        for (int k = 0; k < NAMES.length; k++) {
            left -= OFTEN[k];
            if (left < 0) {
                return NAMES[k];
            }
        }
        throw new AssertionError();
    }

    private static int[] pickArguments(String name, int units) {
        Calls.Kind[] kinds = Calls.FACE.get(name);
        int[] args = new int[kinds.length];
        for (int k = 0; k < kinds.length; k++) {
            args[k] = pick(kinds[k], units);
        }
        while (below(12) == 0) {
            args[below(args.length)] = WILD[below(WILD.length)];
        }
        return args;
    }

    private static int pick(Calls.Kind kind, int units) {
        switch (kind) {
            case MARK: return below(4) == 0 ? below(20) : 20 + below(60);
            case MONEY: return below(3) == 0 ? below(20 * units) : below(100) * 20 * units;
            case SEAL: return below(2);
            case CONTENT: return below(units);
            case QUANTITY: return 1 + below(units - 1);
            default: return below(kind.most + 1);
        }
    }

    /** Long runs that never reach an outcome would say nothing about it. */
    private static void everyOutcomeWasSeen() {
        for (String name : NAMES) {
            boolean takesConsignment = Calls.FACE.get(name)[0] == Calls.Kind.CONSIGNMENT;
            boolean hasState = "setGuarantee announce amend arrive risk search bond move free sendBack".contains(name);
            boolean hasArgument = !"risk mustSearch state".contains(name);
            seen(name + ("setSort".equals(name) ? " nothing" : " answers"));
            if (takesConsignment) {
                seen(name + " " + Model.INDEX);
            }
            if (hasArgument) {
                seen(name + " " + Model.ARGUMENT);
            }
            if (hasState) {
                seen(name + " " + Model.STATE);
            }
        }
    }

    private static void seen(String outcome) {
        CHECKS.due("seen often enough: " + outcome, true, () -> ANSWERED.getOrDefault(outcome, 0) >= 20);
    }
}
