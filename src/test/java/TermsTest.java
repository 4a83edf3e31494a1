/** What the words mean: a test for each sentence under "Terms" that names a bound. */
public final class TermsTest {
    private static final Checks CHECKS = new Checks("TermsTest");

    public static void main(String[] args) {
        aSortAtFirst();
        aGuaranteeAtFirst();
        fifteenAtMost();
        nothingOfAllAtFirst();
        eachAmendmentMakesTheVersionOneHigher();
        goneWhenNothingIsLeftInAStore();
        brokenIfAnotherNumberIsRead();
        countedFromOneOn();
        oneThatIsRefusedIsNotCounted();
        theSampleAsItIsWhenItComes();
        aSampleStaysOne();
        theOthersNeverBecomeOne();
        weightsAsTheyAreNow();
        ofWhichTheManifestHasSomething();
        twoForEachAmendmentBeyondTheFirst();
        thirtyIfTheSealIsBroken();
        atLeastTheMark();
        twentyFiveAtFirst();
        untilItWasSearched();
        CHECKS.finish();
    }

    private static final int[] ONE_OF_SORT_0 = {1, 0, 0, 0, 0, 0};

    private static void aSortAtFirst() {
        for (int sort = 0; sort < 6; sort++) {
            BorderHouse house = new BorderHouse();
            int one = Scenes.atDoor(house, 0, sort, 1);
            CHECKS.due("a weight is 0 at first", 0, () -> house.risk(one));
            house.setGuarantee(0, 1);
            CHECKS.due("a duty is 1 at first", 1, () -> house.bond(one, 0));
        }
    }

    private static void aGuaranteeAtFirst() {
        for (int trader = 0; trader < 4; trader++) {
            BorderHouse house = new BorderHouse();
            int one = Scenes.atDoor(house, trader, 2, 1);
            CHECKS.badState("a guarantee is 0 at first: 1 is too much", () -> house.bond(one, 0));
            house.setSort(2, 0, 0);
            CHECKS.due("a guarantee is 0 at first: 0 is not", 0, () -> house.bond(one, 0));
        }
    }

    private static void fifteenAtMost() {
        BorderHouse house = new BorderHouse();
        for (int k = 0; k < 14; k++) {
            house.announce(k % 4, k);
        }
        CHECKS.noSuchOne("there is no number 14 yet", () -> house.state(14));
        CHECKS.due("the 15th is announced", 14, () -> house.announce(2, 14));
        CHECKS.due("there is a number 14", BorderHouse.UNDER_WAY, () -> house.state(14));
        CHECKS.badState("the 16th is not", () -> house.announce(2, 15));
        CHECKS.noSuchOne("there is no number 15", () -> house.state(15));
        CHECKS.due("the last one is as it was", 1, () -> house.amend(14, 0, 1));
    }

    private static void nothingOfAllAtFirst() {
        BorderHouse house = new BorderHouse();
        int number = house.announce(1, 1);
        for (int sort = 0; sort < 6; sort++) {
            int s = sort;
            CHECKS.due("0 of all at first", 0, () -> house.manifest(number, s));
            CHECKS.badState("0 of all at first: says so already", () -> house.amend(number, s, 0));
        }
        CHECKS.badState("0 of all at first: has nothing", () -> house.arrive(number, 1));
        CHECKS.due("one unit is something", false, () -> {
            house.amend(number, 5, 1);
            return house.arrive(number, 1);
        });
    }

    private static void eachAmendmentMakesTheVersionOneHigher() {
        BorderHouse house = new BorderHouse();
        int number = house.announce(1, 1);
        for (int version = 1; version <= 500; version++) {
            int quantity = version % 101;
            CHECKS.due("version " + version, version, () -> house.amend(number, 3, quantity));
        }
    }

    private static void goneWhenNothingIsLeftInAStore() {
        for (int sort = 0; sort < 6; sort++) {
            for (int store = 0; store < 3; store++) {
                lastUnitLeaves(sort, store, true);
                lastUnitLeaves(sort, store, false);
            }
        }
    }

    private static void lastUnitLeaves(int sort, int store, boolean freed) {
        BorderHouse house = new BorderHouse();
        house.setGuarantee(0, 1000);
        int number = Scenes.announced(house, 0, 1, new int[] {2, 2, 2, 2, 2, 2});
        house.arrive(number, 1);
        house.bond(number, (store + 1) % 3);
        house.move(number, sort, (store + 1) % 3, store, 1);
        for (int each = 0; each < 6; each++) {
            house.sendBack(number, each, (store + 1) % 3, each == sort ? 1 : 2);
        }
        CHECKS.due("one unit is left", BorderHouse.IN_BOND, () -> house.state(number));
        CHECKS.due("it may owe for that", 1, () -> house.held(0));
        CHECKS.due("the last unit leaves", 1, () -> freed
                ? house.free(number, sort, store, 1) : house.sendBack(number, sort, store, 1));
        CHECKS.due("nothing is left", BorderHouse.GONE, () -> house.state(number));
        CHECKS.due("nothing is held", 0, () -> house.held(0));
        CHECKS.badState("there is no more", () -> house.free(number, sort, store, 1));
        CHECKS.badState("there is no more", () -> house.sendBack(number, sort, store, 1));
    }

    private static void brokenIfAnotherNumberIsRead() {
        int[][] sealsAndBroken = {{0, 0, 0}, {0, 1, 30}, {0, 999, 30}, {999, 999, 0}, {999, 998, 30}, {999, 0, 30},
            {500, 499, 30}, {500, 500, 0}, {500, 501, 30}, {128, 128, 0}, {256, 0, 30}};
        for (int[] each : sealsAndBroken) {
            BorderHouse house = new BorderHouse();
            int number = Scenes.announced(house, 0, each[0], ONE_OF_SORT_0);
            CHECKS.due("seal " + each[0] + " read as " + each[1], each[2] == 30, () -> house.arrive(number, each[1]));
            CHECKS.due("risk of seal " + each[0] + " read as " + each[1], each[2], () -> house.risk(number));
        }
    }

    private static void countedFromOneOn() {
        int[][] sampleAndFirst = {{1, 1}, {2, 2}, {3, 3}, {9, 9}, {10, 10}};
        for (int[] each : sampleAndFirst) {
            BorderHouse house = new BorderHouse();
            house.setRisk(25, each[0]);
            for (int count = 1; count <= each[1]; count++) {
                boolean isFirst = count == each[1];
                int number = Scenes.announced(house, 0, 1, ONE_OF_SORT_0);
                CHECKS.due("sample " + each[0] + ", count " + count, isFirst, () -> house.arrive(number, 1));
            }
        }
        BorderHouse none = new BorderHouse();
        none.setRisk(200, 0);
        for (int count = 1; count <= 15; count++) {
            Scenes.atDoor(none, 0, 0, 1);
        }
        CHECKS.due("a sample of 0 makes no samples", 0, () -> none.setRisk(200, 0));
    }

    /** Each once, and each with the other sorts of refusal left out, so that none makes up for another. */
    private static void oneThatIsRefusedIsNotCounted() {
        int[][] numberAndSeal = {{-1, 1}, {15, 1}, {0, -1}, {0, 1000}, {1, 1}, {2, 1}, {3, 1}, {4, 1}};
        for (int[] each : numberAndSeal) {
            BorderHouse house = new BorderHouse();
            house.setGuarantee(0, 10);
            int onTheWay = Scenes.announced(house, 0, 1, ONE_OF_SORT_0);
            house.announce(0, 1);
            Scenes.atDoor(house, 0, 0, 1);
            Scenes.inBond(house, 0, 0, 1, 0);
            house.sendBack(Scenes.inBond(house, 0, 0, 1, 0), 0, 0, 1);
            house.setRisk(25, 4);
            CHECKS.due("arrive(" + each[0] + ", " + each[1] + ") is refused", true,
                    () -> Checks.outcome(() -> house.arrive(each[0], each[1])).toString().startsWith("throws."));
            CHECKS.due("three came before: the fourth is a sample", true, () -> house.arrive(onTheWay, 1));
        }
    }

    private static void theSampleAsItIsWhenItComes() {
        BorderHouse house = new BorderHouse();
        house.setRisk(25, 5);
        int first = Scenes.announced(house, 0, 1, ONE_OF_SORT_0);
        house.setRisk(25, 1);
        CHECKS.due("not as it was when it was announced", true, () -> house.arrive(first, 1));
        int second = Scenes.announced(house, 0, 1, ONE_OF_SORT_0);
        house.setRisk(25, 3);
        CHECKS.due("count 2 is no multiple of 3", false, () -> house.arrive(second, 1));
        int third = Scenes.announced(house, 0, 1, ONE_OF_SORT_0);
        CHECKS.due("the count goes on when the sample is set", true, () -> house.arrive(third, 1));
    }

    private static void aSampleStaysOne() {
        BorderHouse house = new BorderHouse();
        house.setRisk(25, 1);
        int number = Scenes.atDoor(house, 0, 0, 1);
        for (int sample : new int[] {0, 2, 10}) {
            CHECKS.due("a sample stays one with sample " + sample, 1, () -> house.setRisk(200, sample));
            CHECKS.due("a sample stays one with sample " + sample, true, () -> house.mustSearch(number));
        }
        house.search(number, 0, 0);
        CHECKS.due("a sample stays one with nothing in it", true, () -> house.mustSearch(number));
    }

    private static void theOthersNeverBecomeOne() {
        BorderHouse house = new BorderHouse();
        int first = Scenes.atDoor(house, 0, 0, 1);
        house.setRisk(25, 2);
        int second = Scenes.announced(house, 0, 1, ONE_OF_SORT_0);
        house.arrive(second, 1);
        CHECKS.due("only the second is one", 1, () -> house.setRisk(25, 1));
        CHECKS.due("the first never becomes one", false, () -> house.mustSearch(first));
        CHECKS.due("the second is one", true, () -> house.mustSearch(second));
    }

    private static void weightsAsTheyAreNow() {
        BorderHouse house = new BorderHouse();
        house.setGuarantee(0, 10);
        int number = Scenes.atDoor(house, 0, 4, 1);
        for (int weight : new int[] {20, 1, 0, 7}) {
            house.setSort(4, 1, weight);
            CHECKS.due("at the door, weight " + weight, weight, () -> house.risk(number));
        }
        house.bond(number, 0);
        house.setSort(4, 1, 20);
        CHECKS.due("in bond", 20, () -> house.risk(number));
        house.free(number, 4, 0, 1);
        house.setSort(4, 1, 3);
        CHECKS.due("gone", 3, () -> house.risk(number));
    }

    private static void ofWhichTheManifestHasSomething() {
        for (int sort = 0; sort < 6; sort++) {
            BorderHouse house = new BorderHouse();
            int s = sort;
            house.setSort(s, 1, 20);
            int number = Scenes.atDoor(house, 0, (s + 1) % 6, 50);
            CHECKS.due("0 is nothing", 0, () -> house.risk(number));
            house.search(number, s, 1);
            CHECKS.due("1 is something", 20, () -> house.risk(number));
            house.search(number, s, 100);
            CHECKS.due("100 weigh no more than 1", 20, () -> house.risk(number));
            house.search(number, s, 0);
            CHECKS.due("0 is nothing again", 0, () -> house.risk(number));
        }
    }

    private static void twoForEachAmendmentBeyondTheFirst() {
        for (int amendments : new int[] {1, 2, 3, 4, 100, 480}) {
            BorderHouse house = new BorderHouse();
            int number = house.announce(0, 1);
            for (int k = 1; k <= amendments; k++) {
                house.amend(number, 0, k % 101 + (k % 101 == 0 && k == amendments ? 1 : 0));
            }
            house.arrive(number, 1);
            CHECKS.due(amendments + " amendments", 2 * (amendments - 1), () -> house.risk(number));
            house.search(number, 5, 100);
            CHECKS.due("a paper is no amendment", 2 * (amendments - 1), () -> house.risk(number));
        }
    }

    private static void thirtyIfTheSealIsBroken() {
        BorderHouse house = new BorderHouse();
        for (int sort = 0; sort < 6; sort++) {
            house.setSort(sort, 1, 20);
        }
        int broken = Scenes.announced(house, 0, 1, new int[] {1, 1, 1, 1, 1, 1});
        int whole = Scenes.announced(house, 0, 1, new int[] {1, 1, 1, 1, 1, 1});
        house.arrive(broken, 2);
        house.arrive(whole, 1);
        CHECKS.due("120 and 10 and 30", 160, () -> house.risk(broken));
        CHECKS.due("120 and 10", 130, () -> house.risk(whole));
    }

    private static void atLeastTheMark() {
        BorderHouse house = new BorderHouse();
        house.setSort(0, 1, 11);
        int number = Scenes.atDoor(house, 0, 0, 1);
        int[][] marksAndDue = {{12, 0}, {11, 1}, {10, 1}, {0, 1}, {200, 0}};
        for (int[] each : marksAndDue) {
            CHECKS.due("a risk of 11, mark " + each[0], each[1], () -> house.setRisk(each[0], 0));
            CHECKS.due("a risk of 11, mark " + each[0], each[1] == 1, () -> house.mustSearch(number));
        }
        BorderHouse none = new BorderHouse();
        CHECKS.due("nothing at the door", 0, () -> none.setRisk(0, 1));
        int zero = Scenes.announced(none, 0, 1, ONE_OF_SORT_0);
        none.setRisk(0, 0);
        CHECKS.due("a risk of 0 is at the mark of 0", true, () -> none.arrive(zero, 1));
        none.setRisk(1, 0);
        CHECKS.due("a risk of 0 is below the mark of 1", false, () -> none.mustSearch(zero));
        BorderHouse all = new BorderHouse();
        for (int k = 0; k < 15; k++) {
            Scenes.atDoor(all, k % 4, 0, 1);
        }
        CHECKS.due("all fifteen at the door", 15, () -> all.setRisk(0, 0));
    }

    private static void twentyFiveAtFirst() {
        BorderHouse house = new BorderHouse();
        house.setSort(0, 1, 20);
        house.setSort(1, 1, 2);
        int number = Scenes.announced(house, 0, 1, new int[] {1, 1, 0, 0, 0, 0});
        CHECKS.due("24 is below the mark at first", false, () -> house.arrive(number, 1));
        house.setSort(1, 1, 3);
        CHECKS.due("25 is at the mark at first", true, () -> house.mustSearch(number));
    }

    private static void untilItWasSearched() {
        for (int last = 0; last < 6; last++) {
            BorderHouse house = new BorderHouse();
            int number = Scenes.announced(house, 0, 1, new int[] {1, 1, 1, 1, 1, 1});
            int lastSort = last;
            for (int sort = 0; sort < 6; sort++) {
                int s = sort;
                CHECKS.badState("a search on the way does not count", () -> house.search(number, s, 1));
            }
            house.arrive(number, 2);
            for (int step = 1; step < 6; step++) {
                int s = (lastSort + step) % 6;
                CHECKS.due("not yet searched", true, () -> house.mustSearch(number));
                CHECKS.due("a search that finds what the manifest says", 0, () -> house.search(number, s, 1));
            }
            CHECKS.due("five sorts are not all", true, () -> house.mustSearch(number));
            CHECKS.due("five sorts are not all", 1, () -> house.setRisk(40, 0));
            house.search(number, lastSort, 1);
            CHECKS.due("six are", false, () -> house.mustSearch(number));
            CHECKS.due("six are", 0, () -> house.setRisk(0, 1));
        }
    }
}
