import java.util.LinkedHashMap;
import java.util.Map;

/** The class and the model behind one way of calling, so that tables of calls can be made. */
final class Calls {
    /** Answers an Integer, a Boolean, "nothing", or "throws." and the exception's name. */
    interface Target {
        Object call(String name, int... args);
    }

    /** The kinds of the parameters of each method; Kind tells their ranges. */
    static final Map<String, Kind[]> FACE = new LinkedHashMap<>();

    enum Kind {
        CONSIGNMENT(0, 14), SORT(0, 5), DUTY(0, 50), WEIGHT(0, 20), MARK(0, 200), SAMPLE(0, 10), TRADER(0, 3),
        MONEY(0, 1000000), SEAL(0, 999), CONTENT(0, 100), STORE(0, 2), QUANTITY(1, 100);

        final int least;
        final int most;

        Kind(int least, int most) {
            this.least = least;
            this.most = most;
        }
    }

    static {
        FACE.put("setSort", new Kind[] {Kind.SORT, Kind.DUTY, Kind.WEIGHT});
        FACE.put("setRisk", new Kind[] {Kind.MARK, Kind.SAMPLE});
        FACE.put("setGuarantee", new Kind[] {Kind.TRADER, Kind.MONEY});
        FACE.put("announce", new Kind[] {Kind.TRADER, Kind.SEAL});
        FACE.put("amend", new Kind[] {Kind.CONSIGNMENT, Kind.SORT, Kind.CONTENT});
        FACE.put("arrive", new Kind[] {Kind.CONSIGNMENT, Kind.SEAL});
        FACE.put("risk", new Kind[] {Kind.CONSIGNMENT});
        FACE.put("mustSearch", new Kind[] {Kind.CONSIGNMENT});
        FACE.put("search", new Kind[] {Kind.CONSIGNMENT, Kind.SORT, Kind.CONTENT});
        FACE.put("bond", new Kind[] {Kind.CONSIGNMENT, Kind.STORE});
        FACE.put("move", new Kind[] {Kind.CONSIGNMENT, Kind.SORT, Kind.STORE, Kind.STORE, Kind.QUANTITY});
        FACE.put("free", new Kind[] {Kind.CONSIGNMENT, Kind.SORT, Kind.STORE, Kind.QUANTITY});
        FACE.put("sendBack", new Kind[] {Kind.CONSIGNMENT, Kind.SORT, Kind.STORE, Kind.QUANTITY});
        FACE.put("state", new Kind[] {Kind.CONSIGNMENT});
        FACE.put("manifest", new Kind[] {Kind.CONSIGNMENT, Kind.SORT});
        FACE.put("stored", new Kind[] {Kind.SORT, Kind.STORE});
        FACE.put("held", new Kind[] {Kind.TRADER});
        FACE.put("paid", new Kind[] {Kind.TRADER});
    }

    private Calls() {
    }

    static Target of(BorderHouse house) {
        return (name, args) -> Checks.outcome(() -> answer(house, name, args));
    }

    static Target of(Model model) {
        return model::call;
    }

    static String told(String name, int... args) {
        StringBuilder text = new StringBuilder(name).append('(');
        for (int k = 0; k < args.length; k++) {
            text.append(k == 0 ? "" : ", ").append(args[k]);
        }
        return text.append(')').toString();
    }

    private static Object answer(BorderHouse house, String name, int[] a) {
        switch (name) {
            case "setSort":
                house.setSort(a[0], a[1], a[2]);
                return "nothing";
            case "setRisk": return house.setRisk(a[0], a[1]);
            case "setGuarantee": return house.setGuarantee(a[0], a[1]);
            case "announce": return house.announce(a[0], a[1]);
            case "amend": return house.amend(a[0], a[1], a[2]);
            case "arrive": return house.arrive(a[0], a[1]);
            case "risk": return house.risk(a[0]);
            case "mustSearch": return house.mustSearch(a[0]);
            case "search": return house.search(a[0], a[1], a[2]);
            case "bond": return house.bond(a[0], a[1]);
            case "move": return house.move(a[0], a[1], a[2], a[3], a[4]);
            case "free": return house.free(a[0], a[1], a[2], a[3]);
            case "sendBack": return house.sendBack(a[0], a[1], a[2], a[3]);
            case "state": return house.state(a[0]);
            case "manifest": return house.manifest(a[0], a[1]);
            case "stored": return house.stored(a[0], a[1]);
            case "held": return house.held(a[0]);
            case "paid": return house.paid(a[0]);
            default: throw new AssertionError(name);
        }
    }
}
