import java.util.ArrayList;
import java.util.LinkedHashSet;
import java.util.List;
import java.util.Set;

/**
 * Every method with every combination of its edges, in scenes: the answer is the model's (so the
 * exception that is documented first is the one thrown); what is refused leaves an object of which
 * every call answers as of one that was never asked; what is done leaves one as the model says.
 */
public final class EveryCallTest {
    private static final Checks CHECKS = new Checks("EveryCallTest");
    /** An object serves for 512 calls: a scene, the refused ones, and what is asked then. */
    private static final int REFUSED_AT_ONCE = 100;

    private final String title;
    private final EdgeScenes.Scene scene;
    /** The consignments that are called: one of each kind that the scene has, and the first that it has not. */
    private final List<Integer> numbers;
    private final List<String> untouched;

    private EveryCallTest(String title, EdgeScenes.Scene scene, List<Integer> numbers) {
        this.title = title;
        this.scene = scene;
        this.numbers = numbers;
        this.untouched = Probe.all(() -> houseWith(List.of()));
    }

    public static void main(String[] args) {
        new EveryCallTest("new object", EdgeScenes::untouched, List.of(0, 1)).all();
        new EveryCallTest("mixed", EdgeScenes::mixed, List.of(0, 1, 2, 3, 4, 5, 6, 7, 8, 9, 10)).all();
        new EveryCallTest("full", EdgeScenes::full, List.of(0, 12, 13, 14)).all();
        CHECKS.finish();
    }

    private static final class Call {
        final String name;
        final int[] args;

        Call(String name, int[] args) {
            this.name = name;
            this.args = args;
        }

        Object on(Calls.Target target) {
            return target.call(name, args);
        }

        String told() {
            return Calls.told(name, args);
        }
    }

    private void all() {
        CHECKS.due(title + ": the scene itself", "the same",
                () -> Probe.differenceOfAll(untouched, Probe.all(() -> modelWith(List.of()))));
        for (String name : Calls.FACE.keySet()) {
            everyCombination(name);
        }
    }

    private void everyCombination(String name) {
        List<Call> refused = new ArrayList<>();
        Calls.Target model = modelWith(List.of());
        for (Call call : combinations(name)) {
            Object want = call.on(model);
            CHECKS.due(title + ": " + call.told(), want, () -> call.on(houseWith(List.of())));
            if (want instanceof String && ((String) want).startsWith("throws.")) {
                refused.add(call);
            } else {
                changesAsTheModel(call);
                model = modelWith(List.of());
            }
        }
        changeNothing(name, refused);
    }

    private void changesAsTheModel(Call call) {
        List<Call> one = List.of(call);
        CHECKS.due(title + ": behind " + call.told(), "the same", () -> Probe.differenceOfAll(
                Probe.all(() -> houseWith(one)), Probe.all(() -> modelWith(one))));
    }

    private void changeNothing(String name, List<Call> refused) {
        for (int first = 0; first < refused.size(); first += REFUSED_AT_ONCE) {
            List<Call> some = refused.subList(first, Math.min(first + REFUSED_AT_ONCE, refused.size()));
            CHECKS.due(title + ": " + name + " refused from " + some.get(0).told() + " on", "the same",
                    () -> Probe.differenceOfAll(Probe.all(() -> houseWith(some)), untouched));
        }
    }

    private Calls.Target houseWith(List<Call> calls) {
        return with(Calls.of(new BorderHouse()), calls);
    }

    private Calls.Target modelWith(List<Call> calls) {
        return with(Calls.of(new Model()), calls);
    }

    private Calls.Target with(Calls.Target target, List<Call> calls) {
        scene.set(target);
        for (Call call : calls) {
            call.on(target);
        }
        return target;
    }

    private List<Call> combinations(String name) {
        List<Call> calls = new ArrayList<>();
        extend(calls, name, Calls.FACE.get(name), new int[Calls.FACE.get(name).length], 0);
        return calls;
    }

    private void extend(List<Call> calls, String name, Calls.Kind[] kinds, int[] args, int place) {
        if (place == kinds.length) {
            calls.add(new Call(name, args.clone()));
            return;
        }
        for (int value : values(kinds[place])) {
            args[place] = value;
            extend(calls, name, kinds, args, place + 1);
        }
    }

    private Set<Integer> values(Calls.Kind kind) {
        Set<Integer> values = new LinkedHashSet<>(List.of(kind.least - 1, kind.least, kind.most, kind.most + 1));
        switch (kind) {
            case CONSIGNMENT:
                values.addAll(numbers);
                values.addAll(List.of(Integer.MIN_VALUE, Integer.MAX_VALUE));
                break;
            case SORT: values.add(1); break;
            case STORE: values.add(1); break;
            // As much as some have, one less and one more.
            case QUANTITY: values.addAll(List.of(2, 3, 5, 6)); break;
            case CONTENT: values.addAll(List.of(1, 4, 5)); break;
            // What is held in the scenes, one less and one more.
            case MONEY: values.addAll(List.of(49, 50, 59, 60, 61, 89999, 90000)); break;
            case SEAL: values.addAll(List.of(101, 102)); break;
            case MARK: values.addAll(List.of(25, 26)); break;
            case SAMPLE: values.addAll(List.of(1, 9)); break;
            default: break;
        }
        return values;
    }
}
