/** What the words mean, papers and all that is behind the door: a test for each sentence that names a bound. */
public final class BondTermsTest {
    private static final Checks CHECKS = new Checks("BondTermsTest");

    public static void main(String[] args) {
        ifThatIsNotWhatTheManifestSays();
        withoutAnotherVersion();
        papersAreCountedForEach();
        toAStoreWithAllItsGoods();
        dutiesAsTheyAreNow();
        notMoreThanTheGuarantee();
        allThatIsHeldOfATrader();
        theMostThatCanBeHeld();
        byBothWhatIsHeldBecomesLess();
        goodsCanBeMoved();
        nothingIsGoneByBond();
        theFirstExceptionIsThrown();
        CHECKS.finish();
    }

    private static void ifThatIsNotWhatTheManifestSays() {
        int[][] saysFindsPapers = {{0, 0, 0}, {0, 1, 1}, {0, 100, 1}, {100, 100, 0}, {100, 99, 1}, {100, 0, 1},
            {50, 49, 1}, {50, 50, 0}, {50, 51, 1}};
        for (int[] each : saysFindsPapers) {
            BorderHouse house = new BorderHouse();
            int number = Scenes.announced(house, 0, 1, new int[] {1, 0, 0, each[0], 0, 0});
            house.arrive(number, 1);
            String what = "the manifest says " + each[0] + ", the search finds " + each[1];
            CHECKS.due(what, each[2], () -> house.search(number, 3, each[1]));
            CHECKS.due(what, each[1], () -> house.manifest(number, 3));
            CHECKS.due(what + " again", each[2], () -> house.search(number, 3, each[1]));
        }
    }

    private static void withoutAnotherVersion() {
        BorderHouse house = new BorderHouse();
        int number = Scenes.announced(house, 0, 1, new int[] {1, 1, 0, 0, 0, 0});
        house.arrive(number, 1);
        for (int k = 1; k <= 200; k++) {
            int papers = k;
            CHECKS.due("paper " + papers, papers, () -> house.search(number, 0, papers % 2 + 5));
        }
        CHECKS.due("two amendments and 200 papers", 2, () -> house.risk(number));
    }

    private static void papersAreCountedForEach() {
        BorderHouse house = new BorderHouse();
        int[] numbers = new int[15];
        for (int k = 0; k < 15; k++) {
            numbers[k] = Scenes.atDoor(house, k % 4, 0, 1);
        }
        for (int k = 0; k < 15; k++) {
            for (int papers = 1; papers <= k; papers++) {
                house.search(numbers[k], 1, papers);
            }
        }
        for (int k = 0; k < 15; k++) {
            int want = k;
            CHECKS.due("papers of number " + want, want, () -> house.search(numbers[want], 0, 1));
        }
    }

    private static void toAStoreWithAllItsGoods() {
        for (int store = 0; store < 3; store++) {
            BorderHouse house = new BorderHouse();
            house.setGuarantee(0, 1000);
            int number = Scenes.announced(house, 0, 1, new int[] {1, 2, 0, 50, 99, 100});
            house.arrive(number, 1);
            house.bond(number, store);
            int[] want = {1, 2, 0, 50, 99, 100};
            for (int sort = 0; sort < 6; sort++) {
                for (int each = 0; each < 3; each++) {
                    int s = sort;
                    int t = each;
                    CHECKS.due("sort " + s + " in store " + t, t == store ? want[s] : 0, () -> house.stored(s, t));
                }
            }
        }
    }

    private static void dutiesAsTheyAreNow() {
        BorderHouse house = new BorderHouse();
        house.setGuarantee(0, 1000000);
        for (int sort = 0; sort < 6; sort++) {
            house.setSort(sort, 50, 0);
        }
        int number = Scenes.announced(house, 0, 1, new int[] {1, 1, 1, 1, 1, 1});
        house.arrive(number, 1);
        for (int sort = 0; sort < 6; sort++) {
            house.setSort(sort, 10 * sort, 0);
        }
        CHECKS.due("not as they were when it came", 150, () -> house.bond(number, 0));
        for (int sort = 0; sort < 6; sort++) {
            house.setSort(sort, 7, 0);
        }
        CHECKS.due("held as they were taken down", 150, () -> house.held(0));
        for (int sort = 0; sort < 6; sort++) {
            int s = sort;
            CHECKS.due("freed as they were taken down", 10 * s, () -> house.free(number, s, 0, 1));
        }
        CHECKS.due("paid as they were taken down", 150, () -> house.paid(0));
    }

    private static void notMoreThanTheGuarantee() {
        int[][] guaranteeAndReaches = {{0, 0}, {1, 0}, {4999, 0}, {5000, 1}, {5001, 1}, {1000000, 1}};
        for (int[] each : guaranteeAndReaches) {
            BorderHouse house = new BorderHouse();
            house.setSort(2, 50, 0);
            int number = Scenes.atDoor(house, 1, 2, 100);
            house.setGuarantee(0, 1000000);
            house.setGuarantee(1, each[0]);
            String what = "5000 of a guarantee of " + each[0];
            if (each[1] == 1) {
                CHECKS.due(what, 5000, () -> house.bond(number, 0));
                CHECKS.due(what, 5000, () -> house.held(1));
            } else {
                CHECKS.badState(what, () -> house.bond(number, 0));
                CHECKS.due(what, 0, () -> house.held(1));
            }
        }
    }

    private static void allThatIsHeldOfATrader() {
        BorderHouse house = new BorderHouse();
        house.setGuarantee(1, 100);
        house.setGuarantee(2, 100);
        int sixty = Scenes.atDoor(house, 1, 0, 60);
        int others = Scenes.atDoor(house, 2, 0, 100);
        int forty = Scenes.atDoor(house, 1, 1, 40);
        int one = Scenes.atDoor(house, 1, 2, 1);
        CHECKS.due("another trader's whole guarantee", 100, () -> house.bond(others, 0));
        CHECKS.due("60 of 100", 60, () -> house.bond(sixty, 0));
        CHECKS.due("40 of 100", 40, () -> house.bond(forty, 1));
        CHECKS.badState("1 more than 100", () -> house.bond(one, 2));
        CHECKS.due("held as before", 100, () -> house.held(1));
        CHECKS.badState("less than is held", () -> house.setGuarantee(1, 99));
        CHECKS.due("as much as is held", 100, () -> house.setGuarantee(1, 100));
        house.move(forty, 1, 1, 0, 40);
        CHECKS.badState("moving frees nothing", () -> house.bond(one, 2));
        house.free(forty, 1, 0, 1);
        CHECKS.due("1 of the 1 that left", 1, () -> house.bond(one, 2));
    }

    private static void theMostThatCanBeHeld() {
        BorderHouse house = new BorderHouse();
        house.setGuarantee(3, 1000000);
        for (int sort = 0; sort < 6; sort++) {
            house.setSort(sort, 50, 0);
        }
        for (int k = 0; k < 15; k++) {
            int number = Scenes.announced(house, 3, 1, new int[] {100, 100, 100, 100, 100, 100});
            house.arrive(number, 1);
            CHECKS.due("the most for one", 30000, () -> house.bond(number, 2));
        }
        CHECKS.due("the most of one trader", 450000, () -> house.held(3));
        CHECKS.due("the most in a store", 1500, () -> house.stored(5, 2));
        CHECKS.badState("one less than is held", () -> house.setGuarantee(3, 449999));
        CHECKS.due("as much as is held", 1000000, () -> house.setGuarantee(3, 450000));
        for (int number = 0; number < 15; number++) {
            for (int sort = 0; sort < 6; sort++) {
                int n = number;
                int s = sort;
                CHECKS.due("the most at once", 5000, () -> house.free(n, s, 2, 100));
            }
        }
        CHECKS.due("nothing is held", 0, () -> house.held(3));
        CHECKS.due("all is paid", 450000, () -> house.paid(3));
        CHECKS.due("the stores are empty", 0, () -> house.stored(5, 2));
        CHECKS.due("a guarantee of nothing will do", 450000, () -> house.setGuarantee(3, 0));
    }

    private static void byBothWhatIsHeldBecomesLess() {
        BorderHouse house = new BorderHouse();
        house.setSort(1, 50, 0);
        int number = Scenes.inBond(house, 0, 1, 100, 1);
        int other = Scenes.inBond(house, 0, 1, 1, 1);
        CHECKS.due("freed: the duty", 50, () -> house.free(number, 1, 1, 1));
        CHECKS.due("freed: held", 5000, () -> house.held(0));
        CHECKS.due("freed: paid", 50, () -> house.paid(0));
        CHECKS.due("sent back: by how much", 50, () -> house.sendBack(number, 1, 1, 1));
        CHECKS.due("sent back: held", 4950, () -> house.held(0));
        CHECKS.due("sent back: paid as before", 50, () -> house.paid(0));
        CHECKS.badState("freed: one more than it has, though the store has it", () -> house.free(number, 1, 1, 99));
        CHECKS.badState("sent back: one more than it has", () -> house.sendBack(number, 1, 1, 99));
        CHECKS.due("sent back: all that it has", 4900, () -> house.sendBack(number, 1, 1, 98));
        CHECKS.due("held for the other one", 50, () -> house.held(0));
        CHECKS.due("the other one is in bond", BorderHouse.IN_BOND, () -> house.state(other));
    }

    private static void goodsCanBeMoved() {
        BorderHouse house = new BorderHouse();
        int number = Scenes.inBond(house, 0, 1, 100, 1);
        CHECKS.badState("out of an empty store", () -> house.move(number, 1, 0, 1, 1));
        CHECKS.due("the first unit", 1, () -> house.move(number, 1, 1, 0, 1));
        CHECKS.badState("one more than is left", () -> house.move(number, 1, 1, 0, 100));
        CHECKS.due("just what is left", 100, () -> house.move(number, 1, 1, 0, 99));
        CHECKS.badState("the store is empty", () -> house.move(number, 1, 1, 2, 1));
        CHECKS.due("all to the last store", 100, () -> house.move(number, 1, 0, 2, 100));
        CHECKS.due("still in bond", BorderHouse.IN_BOND, () -> house.state(number));
        CHECKS.due("held as before", 100, () -> house.held(0));
        CHECKS.due("the duty from there", 100, () -> house.free(number, 1, 2, 100));
    }

    private static void nothingIsGoneByBond() {
        for (int store = 0; store < 3; store++) {
            BorderHouse house = new BorderHouse();
            int number = Scenes.announced(house, 0, 1, new int[] {1, 0, 0, 0, 0, 100});
            house.arrive(number, 1);
            house.search(number, 0, 0);
            CHECKS.badState("there is a sort left, and no guarantee", () -> house.bond(number, 0));
            house.search(number, 5, 0);
            int s = store;
            CHECKS.due("nothing needs no guarantee", 0, () -> house.bond(number, s));
            CHECKS.due("it is gone by that", BorderHouse.GONE, () -> house.state(number));
            CHECKS.badState("it is not at the door any more", () -> house.bond(number, s));
            CHECKS.badState("nothing can leave", () -> house.free(number, 5, s, 1));
        }
        BorderHouse house = new BorderHouse();
        house.setSort(0, 0, 0);
        int one = Scenes.atDoor(house, 0, 0, 1);
        CHECKS.due("one unit without duty", 0, () -> house.bond(one, 0));
        CHECKS.due("is in bond", BorderHouse.IN_BOND, () -> house.state(one));
    }

    /** Where two or all three exceptions apply. */
    private static void theFirstExceptionIsThrown() {
        BorderHouse house = new BorderHouse();
        int gone = Scenes.inBond(house, 0, 0, 1, 0);
        house.free(gone, 0, 0, 1);
        int bonded = Scenes.inBond(house, 1, 0, 10, 0);
        CHECKS.badArgument("4 setGuarantee: money -1 is less than is held", () -> house.setGuarantee(1, -1));
        CHECKS.badArgument("6 amend: sort, and gone", () -> house.amend(gone, 6, 1));
        CHECKS.badArgument("6 amend: quantity, and gone", () -> house.amend(gone, 0, -1));
        CHECKS.noSuchOne("6 amend: consignment, sort and quantity", () -> house.amend(2, -1, 101));
        CHECKS.badArgument("7 arrive: seal, and gone", () -> house.arrive(gone, -1));
        CHECKS.noSuchOne("7 arrive: consignment and seal", () -> house.arrive(2, 1000));
        CHECKS.badArgument("10 search: sort, and gone", () -> house.search(gone, -1, 0));
        CHECKS.badArgument("10 search: found, and gone", () -> house.search(gone, 0, 101));
        CHECKS.noSuchOne("10 search: consignment, sort and found", () -> house.search(-1, 6, 101));
        CHECKS.badArgument("11 bond: store, and in bond", () -> house.bond(bonded, 3));
        CHECKS.noSuchOne("11 bond: consignment and store", () -> house.bond(2, -1));
        CHECKS.badArgument("12 move: the same store, and less there", () -> house.move(bonded, 0, 1, 1, 1));
        CHECKS.badArgument("12 move: quantity, and less there", () -> house.move(bonded, 0, 0, 1, 101));
        CHECKS.noSuchOne("12 move: consignment and the same store", () -> house.move(2, 0, 1, 1, 1));
        CHECKS.badArgument("13 free: quantity, and less there", () -> house.free(bonded, 0, 0, 101));
        CHECKS.badArgument("13 free: store, and less there", () -> house.free(bonded, 0, 3, 100));
        CHECKS.noSuchOne("13 free: consignment and quantity", () -> house.free(2, 0, 0, 0));
        CHECKS.badArgument("14 sendBack: quantity, and less there", () -> house.sendBack(bonded, 0, 0, 101));
        CHECKS.badArgument("14 sendBack: sort, and less there", () -> house.sendBack(bonded, 6, 0, 100));
        CHECKS.noSuchOne("14 sendBack: consignment and quantity", () -> house.sendBack(2, 0, 0, 0));
        CHECKS.noSuchOne("16 manifest: consignment and sort", () -> house.manifest(2, -1));
        for (int k = 2; k < 15; k++) {
            house.announce(0, 0);
        }
        CHECKS.badArgument("5 announce: trader, and 15 were announced", () -> house.announce(-1, 0));
        CHECKS.badArgument("5 announce: seal, and 15 were announced", () -> house.announce(0, -1));
        CHECKS.badState("5 announce: 15 were announced", () -> house.announce(0, 0));
    }
}
