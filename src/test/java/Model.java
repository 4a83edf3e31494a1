import java.util.ArrayList;
import java.util.List;

/**
 * A second reading of the document, kept apart from the class: it writes down what happened to
 * each consignment and works every answer out from that anew, with nothing summed up on the way.
 */
final class Model {
    static final String INDEX = "throws.IndexOutOfBoundsException";
    static final String ARGUMENT = "throws.IllegalArgumentException";
    static final String STATE = "throws.IllegalStateException";

    private static final class Leaving {
        int sort;
        int store;
        int quantity;
        boolean isPaid;
    }

    private static final class Load {
        int trader;
        int seal;
        int seenSeal = -1;
        int amendments;
        int papers;
        int arrivalCount;
        int sampleThen;
        int bondStore = -1;
        final int[] quantity = new int[6];
        final boolean[] searched = new boolean[6];
        final int[] duty = new int[6];
        final List<int[]> moves = new ArrayList<>();
        final List<Leaving> leavings = new ArrayList<>();
    }

    private final List<Load> loads = new ArrayList<>();
    private final int[] duty = {1, 1, 1, 1, 1, 1};
    private final int[] weight = new int[6];
    private final int[] guarantee = new int[4];
    private int mark = 25;
    private int sample;
    private int arrivals;

    /** What a call answers: an Integer, a Boolean, "nothing", or "throws." and the name. */
    Object call(String name, int... a) {
        switch (name) {
            case "setSort": return setSort(a[0], a[1], a[2]);
            case "setRisk": return setRisk(a[0], a[1]);
            case "setGuarantee": return setGuarantee(a[0], a[1]);
            case "announce": return announce(a[0], a[1]);
            case "stored": return bad(a[0], 0, 5) || bad(a[1], 0, 2) ? ARGUMENT : (Object) storedAll(a[0], a[1]);
            case "held": return bad(a[0], 0, 3) ? ARGUMENT : (Object) heldOf(a[0]);
            case "paid": return bad(a[0], 0, 3) ? ARGUMENT : (Object) paidOf(a[0]);
            default: break;
        }
        if (a[0] < 0 || a[0] >= loads.size()) {
            return INDEX;
        }
        Load load = loads.get(a[0]);
        switch (name) {
            case "amend": return amend(load, a[1], a[2]);
            case "arrive": return arrive(load, a[1]);
            case "risk": return stateOf(load) == 0 ? STATE : (Object) riskOf(load);
            case "mustSearch": return toSearch(load);
            case "search": return search(load, a[1], a[2]);
            case "bond": return bond(load, a[1]);
            case "move": return move(load, a[1], a[2], a[3], a[4]);
            case "free": return leave(load, a[1], a[2], a[3], true);
            case "sendBack": return leave(load, a[1], a[2], a[3], false);
            case "state": return stateOf(load);
            case "manifest": return bad(a[1], 0, 5) ? ARGUMENT : (Object) load.quantity[a[1]];
            default: throw new AssertionError(name);
        }
    }

    private static boolean bad(int value, int least, int most) {
        return value < least || value > most;
    }

    private Object setSort(int sort, int newDuty, int newWeight) {
        if (bad(sort, 0, 5) || bad(newDuty, 0, 50) || bad(newWeight, 0, 20)) {
            return ARGUMENT;
        }
        duty[sort] = newDuty;
        weight[sort] = newWeight;
        return "nothing";
    }

    private Object setRisk(int newMark, int newSample) {
        if (bad(newMark, 0, 200) || bad(newSample, 0, 10)) {
            return ARGUMENT;
        }
        mark = newMark;
        sample = newSample;
        return (int) loads.stream().filter(this::toSearch).count();
    }

    private Object setGuarantee(int trader, int money) {
        if (bad(trader, 0, 3) || bad(money, 0, 1000000)) {
            return ARGUMENT;
        }
        if (heldOf(trader) > money) {
            return STATE;
        }
        int before = guarantee[trader];
        guarantee[trader] = money;
        return before;
    }

    private Object announce(int trader, int seal) {
        if (bad(trader, 0, 3) || bad(seal, 0, 999)) {
            return ARGUMENT;
        }
        if (loads.size() == 15) {
            return STATE;
        }
        Load load = new Load();
        load.trader = trader;
        load.seal = seal;
        loads.add(load);
        return loads.size() - 1;
    }

    private Object amend(Load load, int sort, int quantity) {
        if (bad(sort, 0, 5) || bad(quantity, 0, 100)) {
            return ARGUMENT;
        }
        if (stateOf(load) != 0 || load.quantity[sort] == quantity) {
            return STATE;
        }
        load.quantity[sort] = quantity;
        return ++load.amendments;
    }

    private Object arrive(Load load, int seal) {
        if (bad(seal, 0, 999)) {
            return ARGUMENT;
        }
        boolean something = false;
        for (int quantity : load.quantity) {
            something |= quantity != 0;
        }
        if (stateOf(load) != 0 || !something) {
            return STATE;
        }
        load.seenSeal = seal;
        load.arrivalCount = ++arrivals;
        load.sampleThen = sample;
        return toSearch(load);
    }

    private Object search(Load load, int sort, int found) {
        if (bad(sort, 0, 5) || bad(found, 0, 100)) {
            return ARGUMENT;
        }
        if (stateOf(load) != 1) {
            return STATE;
        }
        load.searched[sort] = true;
        if (load.quantity[sort] != found) {
            load.quantity[sort] = found;
            load.papers++;
        }
        return load.papers;
    }

    private Object bond(Load load, int store) {
        if (bad(store, 0, 2)) {
            return ARGUMENT;
        }
        int owed = 0;
        for (int sort = 0; sort < 6; sort++) {
            owed += load.quantity[sort] * duty[sort];
        }
        if (stateOf(load) != 1 || toSearch(load) || heldOf(load.trader) + owed > guarantee[load.trader]) {
            return STATE;
        }
        load.bondStore = store;
        System.arraycopy(duty, 0, load.duty, 0, 6);
        return owed;
    }

    private Object move(Load load, int sort, int from, int to, int quantity) {
        if (bad(sort, 0, 5) || bad(from, 0, 2) || bad(to, 0, 2) || bad(quantity, 1, 100) || from == to) {
            return ARGUMENT;
        }
        if (has(load, sort, from) < quantity) {
            return STATE;
        }
        load.moves.add(new int[] {sort, from, to, quantity});
        return has(load, sort, to);
    }

    private Object leave(Load load, int sort, int store, int quantity, boolean isPaid) {
        if (bad(sort, 0, 5) || bad(store, 0, 2) || bad(quantity, 1, 100)) {
            return ARGUMENT;
        }
        if (has(load, sort, store) < quantity) {
            return STATE;
        }
        Leaving leaving = new Leaving();
        leaving.sort = sort;
        leaving.store = store;
        leaving.quantity = quantity;
        leaving.isPaid = isPaid;
        load.leavings.add(leaving);
        return quantity * load.duty[sort];
    }

    private static int has(Load load, int sort, int store) {
        int sum = load.bondStore == store ? load.quantity[sort] : 0;
        for (int[] each : load.moves) {
            if (each[0] == sort) {
                sum += each[2] == store ? each[3] : 0;
                sum -= each[1] == store ? each[3] : 0;
            }
        }
        for (Leaving each : load.leavings) {
            sum -= each.sort == sort && each.store == store ? each.quantity : 0;
        }
        return sum;
    }

    private static int stateOf(Load load) {
        if (load.seenSeal < 0) {
            return 0;
        }
        if (load.bondStore < 0) {
            return 1;
        }
        for (int sort = 0; sort < 6; sort++) {
            for (int store = 0; store < 3; store++) {
                if (has(load, sort, store) != 0) {
                    return 2;
                }
            }
        }
        return 3;
    }

    private int riskOf(Load load) {
        int sum = load.seenSeal != load.seal ? 30 : 0;
        for (int sort = 0; sort < 6; sort++) {
            sum += load.quantity[sort] != 0 ? weight[sort] : 0;
        }
        return sum + 2 * Math.max(0, load.amendments - 1);
    }

    private boolean toSearch(Load load) {
        if (stateOf(load) != 1) {
            return false;
        }
        boolean all = true;
        for (boolean each : load.searched) {
            all &= each;
        }
        boolean isSample = load.sampleThen != 0 && load.arrivalCount % load.sampleThen == 0;
        return !all && (isSample || riskOf(load) >= mark);
    }

    private int storedAll(int sort, int store) {
        int sum = 0;
        for (Load load : loads) {
            sum += has(load, sort, store);
        }
        return sum;
    }

    private int heldOf(int trader) {
        int sum = 0;
        for (Load load : loads) {
            for (int sort = 0; sort < 6 && load.trader == trader; sort++) {
                for (int store = 0; store < 3; store++) {
                    sum += has(load, sort, store) * load.duty[sort];
                }
            }
        }
        return sum;
    }

    private int paidOf(int trader) {
        int sum = 0;
        for (Load load : loads) {
            for (Leaving each : load.leavings) {
                sum += load.trader == trader && each.isPaid ? each.quantity * load.duty[each.sort] : 0;
            }
        }
        return sum;
    }
}
