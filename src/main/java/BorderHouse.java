/**
 * A border house: consignments are announced with a manifest, come to the door, are searched
 * where risk or sample asks for it, lie in bonded stores, and leave them in parts.
 */
public final class BorderHouse {
    public static final int UNDER_WAY = 0, AT_DOOR = 1, IN_BOND = 2, GONE = 3;

    private static final int SORTS = 6;
    private static final int STORES = 3;
    private static final int TRADERS = 4;
    private static final int MOST_CONSIGNMENTS = 15;

    private static final int MOST_DUTY = 50;
    private static final int MOST_WEIGHT = 20;
    private static final int MOST_MARK = 200;
    private static final int MOST_SAMPLE = 10;
    private static final int MOST_GUARANTEE = 1000000;
    private static final int MOST_SEAL = 999;
    private static final int MOST_QUANTITY = 100;

    private static final int FIRST_DUTY = 1;
    private static final int FIRST_MARK = 25;
    private static final int RISK_OF_AMENDMENT = 2;
    private static final int RISK_OF_BROKEN_SEAL = 30;

    private final int[] dutyOfSort = new int[SORTS];
    private final int[] weightOfSort = new int[SORTS];
    private final int[] guaranteeOfTrader = new int[TRADERS];
    private final int[] heldOfTrader = new int[TRADERS];
    private final int[] paidByTrader = new int[TRADERS];
    private final Consignment[] consignments = new Consignment[MOST_CONSIGNMENTS];
    private int announced = 0;
    private int arrivals = 0;
    private int searchMark = FIRST_MARK;
    private int sampleStep = 0;

    public BorderHouse() {
        for (int sort = 0; sort < SORTS; sort++) {
            dutyOfSort[sort] = FIRST_DUTY;
        }
    }

    // ---- rules and guarantees

    public void setSort(int sort, int duty, int weight) throws IllegalArgumentException {
        checkSort(sort);
        checkRange(duty, 0, MOST_DUTY);
        checkRange(weight, 0, MOST_WEIGHT);
        dutyOfSort[sort] = duty;
        weightOfSort[sort] = weight;
    }

    public int setRisk(int mark, int sample) throws IllegalArgumentException {
        checkRange(mark, 0, MOST_MARK);
        checkRange(sample, 0, MOST_SAMPLE);
        searchMark = mark;
        sampleStep = sample;
        return countToSearch();
    }

    public int setGuarantee(int trader, int money) throws IllegalArgumentException, IllegalStateException {
        checkTrader(trader);
        checkRange(money, 0, MOST_GUARANTEE);
        if (heldOfTrader[trader] > money) {
            throw new IllegalStateException("more than that is held");
        }
        int before = guaranteeOfTrader[trader];
        guaranteeOfTrader[trader] = money;
        return before;
    }

    // ---- on the way

    public int announce(int trader, int seal) throws IllegalArgumentException, IllegalStateException {
        checkTrader(trader);
        checkSeal(seal);
        if (announced >= MOST_CONSIGNMENTS) {
            throw new IllegalStateException("no more consignments can be announced");
        }
        int number = announced;
        consignments[number] = new Consignment(trader, seal);
        announced = number + 1;
        return number;
    }

    public int amend(int consignment, int sort, int quantity)
            throws IndexOutOfBoundsException, IllegalArgumentException, IllegalStateException {
        Consignment amended = findConsignment(consignment);
        checkSort(sort);
        checkRange(quantity, 0, MOST_QUANTITY);
        if (amended.stage != UNDER_WAY) {
            throw new IllegalStateException("the consignment is not under way");
        }
        if (amended.declared[sort] == quantity) {
            throw new IllegalStateException("the manifest says so already");
        }
        amended.declared[sort] = quantity;
        amended.version++;
        return amended.version;
    }

    public boolean arrive(int consignment, int seal)
            throws IndexOutOfBoundsException, IllegalArgumentException, IllegalStateException {
        Consignment coming = findConsignment(consignment);
        checkSeal(seal);
        if (coming.stage != UNDER_WAY) {
            throw new IllegalStateException("the consignment is not under way");
        }
        if (coming.totalDeclared() == 0) {
            throw new IllegalStateException("the manifest has nothing");
        }
        arrivals++;
        coming.stage = AT_DOOR;
        coming.sealBroken = seal != coming.sealNumber;
        coming.isSample = sampleStep != 0 && arrivals % sampleStep == 0;
        return hasToBeSearched(coming);
    }

    // ---- at the door

    public int risk(int consignment) throws IndexOutOfBoundsException, IllegalStateException {
        Consignment rated = findConsignment(consignment);
        if (rated.stage == UNDER_WAY) {
            throw new IllegalStateException("the consignment is under way");
        }
        return riskOf(rated);
    }

    public boolean mustSearch(int consignment) throws IndexOutOfBoundsException {
        return hasToBeSearched(findConsignment(consignment));
    }

    public int search(int consignment, int sort, int found)
            throws IndexOutOfBoundsException, IllegalArgumentException, IllegalStateException {
        Consignment opened = findConsignment(consignment);
        checkSort(sort);
        checkRange(found, 0, MOST_QUANTITY);
        if (opened.stage != AT_DOOR) {
            throw new IllegalStateException("the consignment is not at the door");
        }
        opened.noteSearch(sort, found);
        return opened.papers;
    }

    public int bond(int consignment, int store)
            throws IndexOutOfBoundsException, IllegalArgumentException, IllegalStateException {
        Consignment bonded = findConsignment(consignment);
        checkStore(store);
        if (bonded.stage != AT_DOOR) {
            throw new IllegalStateException("the consignment is not at the door");
        }
        if (hasToBeSearched(bonded)) {
            throw new IllegalStateException("the consignment has to be searched");
        }
        int owed = dutyNow(bonded);
        if (heldOfTrader[bonded.trader] + owed > guaranteeOfTrader[bonded.trader]) {
            throw new IllegalStateException("the guarantee does not reach");
        }
        heldOfTrader[bonded.trader] += owed;
        bonded.enterStore(store, dutyOfSort);
        return owed;
    }

    // ---- in bond

    public int move(int consignment, int sort, int from, int to, int quantity)
            throws IndexOutOfBoundsException, IllegalArgumentException, IllegalStateException {
        Consignment moved = findConsignment(consignment);
        checkStore(to);
        if (from == to) {
            throw new IllegalArgumentException("both stores are the same");
        }
        checkTaking(moved, sort, from, quantity);
        int target = placeOf(sort, to);
        moved.goods[placeOf(sort, from)] -= quantity;
        moved.goods[target] += quantity;
        return moved.goods[target];
    }

    public int free(int consignment, int sort, int store, int quantity)
            throws IndexOutOfBoundsException, IllegalArgumentException, IllegalStateException {
        Consignment freed = findConsignment(consignment);
        checkTaking(freed, sort, store, quantity);
        int duty = takeOut(freed, sort, store, quantity);
        paidByTrader[freed.trader] += duty;
        return duty;
    }

    public int sendBack(int consignment, int sort, int store, int quantity)
            throws IndexOutOfBoundsException, IllegalArgumentException, IllegalStateException {
        Consignment returned = findConsignment(consignment);
        checkTaking(returned, sort, store, quantity);
        return takeOut(returned, sort, store, quantity);
    }

    // ---- what is

    public int state(int consignment) throws IndexOutOfBoundsException {
        return findConsignment(consignment).stage;
    }

    public int manifest(int consignment, int sort) throws IndexOutOfBoundsException, IllegalArgumentException {
        Consignment asked = findConsignment(consignment);
        checkSort(sort);
        return asked.declared[sort];
    }

    public int stored(int sort, int store) throws IllegalArgumentException {
        checkSort(sort);
        checkStore(store);
        int sum = 0;
        for (Consignment each : consignments) {
            if (each != null) {
                sum += each.goods[placeOf(sort, store)];
            }
        }
        return sum;
    }

    public int held(int trader) throws IllegalArgumentException {
        checkTrader(trader);
        return heldOfTrader[trader];
    }

    public int paid(int trader) throws IllegalArgumentException {
        checkTrader(trader);
        return paidByTrader[trader];
    }

    // ---- what the calls share

    private Consignment findConsignment(int number) throws IndexOutOfBoundsException {
        Consignment found = number >= 0 && number < consignments.length ? consignments[number] : null;
        if (found == null) {
            throw new IndexOutOfBoundsException("there is no such consignment");
        }
        return found;
    }

    private static void checkRange(int value, int least, int most) throws IllegalArgumentException {
        if (value < least || value > most) {
            throw new IllegalArgumentException("a parameter is out of range");
        }
    }

    private static void checkSort(int sort) throws IllegalArgumentException {
        checkRange(sort, 0, SORTS - 1);
    }

    private static void checkStore(int store) throws IllegalArgumentException {
        checkRange(store, 0, STORES - 1);
    }

    private static void checkTrader(int trader) throws IllegalArgumentException {
        checkRange(trader, 0, TRADERS - 1);
    }

    private static void checkSeal(int seal) throws IllegalArgumentException {
        checkRange(seal, 0, MOST_SEAL);
    }

    // A consignment has goods in stores only while it is in bond, so its stage needs no look here.
    private static void checkTaking(Consignment owner, int sort, int store, int quantity)
            throws IllegalArgumentException, IllegalStateException {
        checkSort(sort);
        checkStore(store);
        checkRange(quantity, 1, MOST_QUANTITY);
        if (owner.goods[placeOf(sort, store)] < quantity) {
            throw new IllegalStateException("there is less of the sort in the store");
        }
    }

    private static int placeOf(int sort, int store) {
        return sort * STORES + store;
    }

    private int riskOf(Consignment rated) {
        int sum = 0;
        for (int sort = 0; sort < SORTS; sort++) {
            if (rated.declared[sort] > 0) {
                sum += weightOfSort[sort];
            }
        }
        if (rated.version > 1) {
            sum += RISK_OF_AMENDMENT * (rated.version - 1);
        }
        if (rated.sealBroken) {
            sum += RISK_OF_BROKEN_SEAL;
        }
        return sum;
    }

    private boolean hasToBeSearched(Consignment asked) {
        return asked.stage == AT_DOOR
                && !asked.wasSearched()
                && (asked.isSample || riskOf(asked) >= searchMark);
    }

    private int countToSearch() {
        int count = 0;
        for (Consignment each : consignments) {
            if (each != null && hasToBeSearched(each)) {
                count++;
            }
        }
        return count;
    }

    private int dutyNow(Consignment owner) {
        int sum = 0;
        for (int sort = 0; sort < SORTS; sort++) {
            sum += owner.declared[sort] * dutyOfSort[sort];
        }
        return sum;
    }

    private int takeOut(Consignment owner, int sort, int store, int quantity) {
        int duty = quantity * owner.dutyTakenDown[sort];
        heldOfTrader[owner.trader] -= duty;
        owner.goods[placeOf(sort, store)] -= quantity;
        owner.unitsLeft -= quantity;
        if (owner.unitsLeft == 0) {
            owner.stage = GONE;
        }
        return duty;
    }

    private static final class Consignment {
        private static final int ALL_SORTS_SEARCHED = (1 << SORTS) - 1;

        final int trader;
        final int sealNumber;
        final int[] declared = new int[SORTS];
        final int[] dutyTakenDown = new int[SORTS];
        final int[] goods = new int[SORTS * STORES];
        int stage = UNDER_WAY;
        int version = 0;
        int papers = 0;
        int sortsSearched = 0;
        int unitsLeft = 0;
        boolean sealBroken = false;
        boolean isSample = false;

        Consignment(int trader, int sealNumber) {
            this.trader = trader;
            this.sealNumber = sealNumber;
        }

        int totalDeclared() {
            int sum = 0;
            for (int quantity : declared) {
                sum += quantity;
            }
            return sum;
        }

        boolean wasSearched() {
            return sortsSearched == ALL_SORTS_SEARCHED;
        }

        void noteSearch(int sort, int found) {
            if (declared[sort] != found) {
                declared[sort] = found;
                papers++;
            }
            sortsSearched |= 1 << sort;
        }

        void enterStore(int store, int[] dutyOfSort) {
            for (int sort = 0; sort < SORTS; sort++) {
                goods[placeOf(sort, store)] = declared[sort];
                dutyTakenDown[sort] = dutyOfSort[sort];
            }
            unitsLeft = totalDeclared();
            stage = unitsLeft == 0 ? GONE : IN_BOND;
        }
    }
}
