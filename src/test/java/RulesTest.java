/** Promises 1 to 4: a new object, setSort, setRisk, setGuarantee. */
public final class RulesTest {
    private static final Checks CHECKS = new Checks("RulesTest");

    public static void main(String[] args) {
        newObject();
        newObjectsRules();
        setSortDuty();
        setSortWeight();
        setSortRefuses();
        setRiskCounts();
        setRiskMarkEdges();
        setRiskSample();
        setRiskRefuses();
        refusedHalfGoodHalfBad();
        setGuaranteeAnswers();
        setGuaranteeRefuses();
        CHECKS.finish();
    }

    private static void newObject() {
        BorderHouse house = new BorderHouse();
        for (int number : new int[] {Integer.MIN_VALUE, -1, 0, 14, 15, Integer.MAX_VALUE}) {
            CHECKS.noSuchOne("1 new: state(" + number + ")", () -> house.state(number));
        }
        for (int sort = 0; sort < 6; sort++) {
            for (int store = 0; store < 3; store++) {
                int s = sort;
                int t = store;
                CHECKS.due("1 new: stored", 0, () -> house.stored(s, t));
            }
        }
        for (int trader = 0; trader < 4; trader++) {
            int t = trader;
            CHECKS.due("1 new: held", 0, () -> house.held(t));
            CHECKS.due("1 new: paid", 0, () -> house.paid(t));
            CHECKS.due("1 new: guarantee", 0, () -> house.setGuarantee(t, 7));
        }
        CHECKS.due("1 new: first number", 0, () -> house.announce(0, 0));
        BorderHouse other = new BorderHouse();
        CHECKS.noSuchOne("1 new: two objects share nothing", () -> other.state(0));
        CHECKS.due("1 new: two objects share no guarantee", 0, () -> other.setGuarantee(0, 0));
    }

    private static void newObjectsRules() {
        BorderHouse house = new BorderHouse();
        for (int count = 1; count <= 10; count++) {
            int number = Scenes.atDoor(house, 0, 0, 1);
            CHECKS.due("1 new: no arrival is a sample", false, () -> house.mustSearch(number));
            CHECKS.due("1 new: weights are 0", 0, () -> house.risk(number));
        }
        BorderHouse marked = new BorderHouse();
        marked.setSort(0, 1, 20);
        marked.setSort(1, 1, 4);
        marked.setSort(2, 1, 1);
        int below = Scenes.announced(marked, 0, 5, new int[] {1, 0, 0, 0, 0, 0});
        marked.arrive(below, 5);
        CHECKS.due("1 new: 20 is below the mark of 25", false, () -> marked.mustSearch(below));
        marked.setSort(0, 1, 19);
        int under = Scenes.announced(marked, 0, 5, new int[] {1, 1, 0, 0, 0, 0});
        CHECKS.due("1 new: 19 + 4 + 2 is at the mark of 25", true, () -> marked.arrive(under, 5));
        marked.setSort(0, 1, 18);
        CHECKS.due("1 new: 18 + 4 + 2 is below the mark of 25", false, () -> marked.mustSearch(under));
        BorderHouse duties = new BorderHouse();
        duties.setGuarantee(0, 1000);
        int all = Scenes.announced(duties, 0, 1, new int[] {1, 2, 4, 8, 16, 32});
        duties.arrive(all, 1);
        CHECKS.due("1 new: duties are 1", 63, () -> duties.bond(all, 0));
    }

    private static void setSortDuty() {
        BorderHouse house = new BorderHouse();
        house.setGuarantee(0, 1000000);
        for (int sort = 0; sort < 6; sort++) {
            house.setSort(sort, 50 - sort, 0);
        }
        int first = Scenes.announced(house, 0, 1, new int[] {1, 2, 3, 4, 5, 6});
        house.arrive(first, 1);
        CHECKS.due("2 setSort: each sort has its duty", 50 + 98 + 144 + 188 + 230 + 270, () -> house.bond(first, 0));
        house.setSort(3, 0, 0);
        int second = Scenes.announced(house, 0, 1, new int[] {0, 0, 0, 100, 0, 0});
        house.arrive(second, 1);
        CHECKS.due("2 setSort: a duty of 0", 0, () -> house.bond(second, 0));
        CHECKS.due("2 setSort: a bonded one keeps its duties", 47, () -> house.free(first, 3, 0, 1));
        CHECKS.due("2 setSort: nothing is owed, but there is something", BorderHouse.IN_BOND, () -> house.state(second));
    }

    private static void setSortWeight() {
        BorderHouse house = new BorderHouse();
        int number = Scenes.announced(house, 0, 1, new int[] {1, 0, 0, 0, 0, 100});
        house.arrive(number, 1);
        house.setSort(0, 1, 20);
        CHECKS.due("2 setSort: a weight counts at once", 22, () -> house.risk(number));
        house.setSort(5, 1, 13);
        CHECKS.due("2 setSort: weights are added", 35, () -> house.risk(number));
        house.setSort(2, 1, 20);
        CHECKS.due("2 setSort: only of sorts that there are", 35, () -> house.risk(number));
        house.setSort(0, 1, 0);
        CHECKS.due("2 setSort: the weight before is gone", 15, () -> house.risk(number));
    }

    private static void setSortRefuses() {
        BorderHouse house = new BorderHouse();
        int number = Scenes.atDoor(house, 0, 0, 10);
        for (int sort : new int[] {-1, 6, Integer.MIN_VALUE, Integer.MAX_VALUE}) {
            CHECKS.badArgument("2 setSort: sort " + sort, () -> house.setSort(sort, 1, 1));
        }
        for (int duty : new int[] {-1, 51, Integer.MIN_VALUE, Integer.MAX_VALUE}) {
            CHECKS.badArgument("2 setSort: duty " + duty, () -> house.setSort(0, duty, 9));
        }
        for (int weight : new int[] {-1, 21, Integer.MIN_VALUE, Integer.MAX_VALUE}) {
            CHECKS.badArgument("2 setSort: weight " + weight, () -> house.setSort(0, 9, weight));
        }
        CHECKS.due("2 setSort: refused, so no weight", 0, () -> house.risk(number));
        house.setGuarantee(0, 1000);
        CHECKS.due("2 setSort: refused, so no duty", 10, () -> house.bond(number, 0));
    }

    private static void setRiskCounts() {
        BorderHouse house = new BorderHouse();
        house.setSort(0, 1, 10);
        house.setSort(1, 1, 20);
        house.setGuarantee(0, 1000);
        int ten = Scenes.atDoor(house, 0, 0, 1);
        int twenty = Scenes.atDoor(house, 0, 1, 1);
        int broken = Scenes.announced(house, 0, 1, new int[] {1, 0, 0, 0, 0, 0});
        house.arrive(broken, 2);
        int onTheWay = Scenes.announced(house, 0, 1, new int[] {1, 1, 0, 0, 0, 0});
        CHECKS.due("3 setRisk: mark 0 is all at the door", 3, () -> house.setRisk(0, 0));
        CHECKS.due("3 setRisk: 10", 3, () -> house.setRisk(10, 0));
        CHECKS.due("3 setRisk: 11", 2, () -> house.setRisk(11, 0));
        CHECKS.due("3 setRisk: 21", 1, () -> house.setRisk(21, 0));
        CHECKS.due("3 setRisk: 40", 1, () -> house.setRisk(40, 0));
        CHECKS.due("3 setRisk: 41", 0, () -> house.setRisk(41, 0));
        house.bond(ten, 0);
        CHECKS.due("3 setRisk: one in bond does not count", 2, () -> house.setRisk(0, 0));
        Scenes.searchAll(house, twenty, new int[] {0, 1, 0, 0, 0, 0});
        CHECKS.due("3 setRisk: one that was searched does not count", 1, () -> house.setRisk(0, 0));
        CHECKS.due("3 setRisk: one on the way does not have to be", false, () -> house.mustSearch(onTheWay));
    }

    private static void setRiskMarkEdges() {
        BorderHouse house = new BorderHouse();
        CHECKS.due("3 setRisk: mark 200", 0, () -> house.setRisk(200, 10));
        for (int sort = 0; sort < 6; sort++) {
            house.setSort(sort, 1, 20);
        }
        int number = house.announce(0, 1);
        for (int k = 1; k <= 13; k++) {
            house.amend(number, 0, k);
        }
        for (int sort = 1; sort < 6; sort++) {
            house.amend(number, sort, 1);
        }
        for (int k = 2; k <= 9; k++) {
            house.amend(number, 1, k);
        }
        CHECKS.due("3 setRisk: 120 + 50 + 30 is at the mark of 200", true, () -> house.arrive(number, 2));
        CHECKS.due("3 setRisk: the risk is 200", 200, () -> house.risk(number));
        house.setSort(5, 1, 19);
        CHECKS.due("3 setRisk: 199 is below the mark of 200", false, () -> house.mustSearch(number));
        CHECKS.due("3 setRisk: 199 is at the mark of 199", 1, () -> house.setRisk(199, 0));
    }

    private static void setRiskSample() {
        BorderHouse house = new BorderHouse();
        house.setRisk(200, 1);
        int sample = Scenes.atDoor(house, 0, 0, 1);
        CHECKS.due("3 setRisk: a sample counts", 1, () -> house.setRisk(200, 3));
        CHECKS.due("3 setRisk: it stays one", 1, () -> house.setRisk(200, 0));
        int second = Scenes.atDoor(house, 0, 0, 1);
        CHECKS.due("3 setRisk: one that came without a sample", 1, () -> house.setRisk(200, 1));
        CHECKS.due("3 setRisk: never becomes one", false, () -> house.mustSearch(second));
        CHECKS.due("3 setRisk: still the sample", true, () -> house.mustSearch(sample));
    }

    private static void setRiskRefuses() {
        BorderHouse house = new BorderHouse();
        int number = Scenes.atDoor(house, 0, 0, 1);
        for (int mark : new int[] {-1, 201, Integer.MIN_VALUE, Integer.MAX_VALUE}) {
            CHECKS.badArgument("3 setRisk: mark " + mark, () -> house.setRisk(mark, 1));
        }
        for (int sample : new int[] {-1, 11, Integer.MIN_VALUE, Integer.MAX_VALUE}) {
            CHECKS.badArgument("3 setRisk: sample " + sample, () -> house.setRisk(0, sample));
        }
        CHECKS.due("3 setRisk: refused, so the mark stays", false, () -> house.mustSearch(number));
        int next = Scenes.atDoor(house, 0, 0, 1);
        CHECKS.due("3 setRisk: refused, so the sample stays", false, () -> house.mustSearch(next));
    }

    /** Each on an object of its own, where the good half would be seen. */
    private static void refusedHalfGoodHalfBad() {
        BorderHouse sample = new BorderHouse();
        CHECKS.badArgument("3 setRisk: a bad mark with a good sample", () -> sample.setRisk(201, 1));
        int first = Scenes.announced(sample, 0, 1, new int[] {1, 0, 0, 0, 0, 0});
        CHECKS.due("3 setRisk: refused, so no sample", false, () -> sample.arrive(first, 1));
        BorderHouse mark = new BorderHouse();
        int risky = Scenes.atDoor(mark, 0, 0, 1);
        CHECKS.badArgument("3 setRisk: a good mark with a bad sample", () -> mark.setRisk(0, 11));
        CHECKS.due("3 setRisk: refused, so no other mark", false, () -> mark.mustSearch(risky));
        BorderHouse duty = new BorderHouse();
        int bonded = Scenes.atDoor(duty, 0, 0, 1);
        duty.setGuarantee(0, 1000);
        CHECKS.badArgument("2 setSort: a good duty with a bad weight", () -> duty.setSort(0, 9, 21));
        CHECKS.due("2 setSort: refused, so no other duty", 1, () -> duty.bond(bonded, 0));
        BorderHouse weight = new BorderHouse();
        int weighed = Scenes.atDoor(weight, 0, 0, 1);
        CHECKS.badArgument("2 setSort: a bad duty with a good weight", () -> weight.setSort(0, 51, 9));
        CHECKS.due("2 setSort: refused, so no other weight", 0, () -> weight.risk(weighed));
    }

    private static void setGuaranteeAnswers() {
        BorderHouse house = new BorderHouse();
        CHECKS.due("4 setGuarantee: 0 before", 0, () -> house.setGuarantee(3, 1000000));
        CHECKS.due("4 setGuarantee: answers the one before", 1000000, () -> house.setGuarantee(3, 0));
        CHECKS.due("4 setGuarantee: and 0", 0, () -> house.setGuarantee(3, 12));
        CHECKS.due("4 setGuarantee: each trader has its own", 0, () -> house.setGuarantee(2, 30));
        CHECKS.due("4 setGuarantee: which stays", 12, () -> house.setGuarantee(3, 12));
        int number = Scenes.atDoor(house, 2, 0, 30);
        house.bond(number, 0);
        CHECKS.due("4 setGuarantee: as much as is held", 30, () -> house.setGuarantee(2, 30));
        CHECKS.badState("4 setGuarantee: less than is held", () -> house.setGuarantee(2, 29));
        CHECKS.due("4 setGuarantee: refused, so it stays", 30, () -> house.setGuarantee(2, 31));
        CHECKS.due("4 setGuarantee: another trader's is free", 12, () -> house.setGuarantee(3, 0));
        house.free(number, 0, 0, 1);
        CHECKS.due("4 setGuarantee: what left is not held", 31, () -> house.setGuarantee(2, 29));
    }

    private static void setGuaranteeRefuses() {
        BorderHouse house = new BorderHouse();
        Scenes.inBond(house, 0, 0, 10, 0);
        for (int trader : new int[] {-1, 4, Integer.MIN_VALUE, Integer.MAX_VALUE}) {
            CHECKS.badArgument("4 setGuarantee: trader " + trader, () -> house.setGuarantee(trader, 1));
        }
        for (int money : new int[] {-1, 1000001, Integer.MIN_VALUE, Integer.MAX_VALUE}) {
            CHECKS.badArgument("4 setGuarantee: money " + money, () -> house.setGuarantee(0, money));
        }
        CHECKS.badState("4 setGuarantee: 0 with 10 held", () -> house.setGuarantee(0, 0));
        CHECKS.due("4 setGuarantee: refused, so it stays", 1000000, () -> house.setGuarantee(0, 10));
    }
}
