/** Promises 8 to 11: risk, mustSearch, search, bond. */
public final class AtTheDoorTest {
    private static final Checks CHECKS = new Checks("AtTheDoorTest");
    private static final int[] WRONG_NUMBERS = {-1, 1, 14, 15, Integer.MIN_VALUE, Integer.MAX_VALUE};

    public static void main(String[] args) {
        riskSums();
        riskBehindTheDoor();
        riskRefuses();
        mustSearchUntilSearched();
        mustSearchElsewhere();
        searchPapers();
        searchEverySort();
        searchBeforeItHasTo();
        searchRefuses();
        bondHolds();
        bondNothing();
        bondGuarantee();
        bondRefuses();
        CHECKS.finish();
    }

    private static void riskSums() {
        BorderHouse house = new BorderHouse();
        for (int sort = 0; sort < 6; sort++) {
            house.setSort(sort, 1, 1 << sort > 20 ? 19 : 1 << sort);
        }
        int all = Scenes.announced(house, 0, 4, new int[] {1, 1, 1, 1, 1, 1});
        house.arrive(all, 4);
        CHECKS.due("8 risk: all sorts, six amendments", 1 + 2 + 4 + 8 + 16 + 19 + 10, () -> house.risk(all));
        int one = Scenes.announced(house, 0, 4, new int[] {0, 0, 100, 0, 0, 0});
        house.arrive(one, 4);
        CHECKS.due("8 risk: one sort, one amendment", 4, () -> house.risk(one));
        int two = house.announce(0, 4);
        house.amend(two, 3, 50);
        house.amend(two, 3, 60);
        house.arrive(two, 5);
        CHECKS.due("8 risk: one sort, two amendments, broken", 8 + 2 + 30, () -> house.risk(two));
        house.search(two, 3, 0);
        CHECKS.due("8 risk: papers count, but are no amendments", 32, () -> house.risk(two));
        house.search(two, 0, 1);
        CHECKS.due("8 risk: what was found counts", 33, () -> house.risk(two));
        CHECKS.due("8 risk: asking changes nothing", 33, () -> house.risk(two));
    }

    private static void riskBehindTheDoor() {
        BorderHouse house = new BorderHouse();
        house.setGuarantee(1, 1000);
        house.setSort(2, 1, 6);
        int number = Scenes.announced(house, 1, 4, new int[] {0, 1, 5, 0, 0, 0});
        house.arrive(number, 4);
        house.bond(number, 0);
        CHECKS.due("8 risk: in bond", 8, () -> house.risk(number));
        house.free(number, 2, 0, 5);
        CHECKS.due("8 risk: what left stands in the manifest", 8, () -> house.risk(number));
        house.sendBack(number, 1, 0, 1);
        CHECKS.due("8 risk: gone", 8, () -> house.risk(number));
        house.setSort(2, 1, 9);
        CHECKS.due("8 risk: the weights as they are now", 11, () -> house.risk(number));
        int broken = Scenes.announced(house, 1, 4, new int[] {0, 1, 0, 0, 0, 0});
        house.setRisk(31, 0);
        house.arrive(broken, 40);
        house.bond(broken, 0);
        CHECKS.due("8 risk: the seal stays broken in bond", 30, () -> house.risk(broken));
    }

    private static void riskRefuses() {
        BorderHouse house = new BorderHouse();
        int number = Scenes.announced(house, 0, 0, new int[] {1, 0, 0, 0, 0, 0});
        for (int wrong : WRONG_NUMBERS) {
            CHECKS.noSuchOne("8 risk: consignment " + wrong, () -> house.risk(wrong));
        }
        CHECKS.badState("8 risk: under way", () -> house.risk(number));
        house.arrive(number, 0);
        CHECKS.due("8 risk: at the door", 0, () -> house.risk(number));
    }

    private static void mustSearchUntilSearched() {
        BorderHouse house = new BorderHouse();
        house.setSort(0, 1, 20);
        house.setRisk(20, 2);
        int risky = Scenes.atDoor(house, 0, 0, 3);
        int sample = Scenes.atDoor(house, 0, 1, 3);
        CHECKS.due("9 mustSearch: at the mark", true, () -> house.mustSearch(risky));
        CHECKS.due("9 mustSearch: a sample", true, () -> house.mustSearch(sample));
        house.setSort(0, 1, 19);
        CHECKS.due("9 mustSearch: below the mark now", false, () -> house.mustSearch(risky));
        house.setSort(0, 1, 20);
        CHECKS.due("9 mustSearch: at the mark again", true, () -> house.mustSearch(risky));
        Scenes.searchAll(house, risky, new int[] {3, 0, 0, 0, 0, 0});
        CHECKS.due("9 mustSearch: it was searched", false, () -> house.mustSearch(risky));
        CHECKS.due("9 mustSearch: the risk is the same", 20, () -> house.risk(risky));
        house.setRisk(0, 1);
        CHECKS.due("9 mustSearch: searched is searched", false, () -> house.mustSearch(risky));
        CHECKS.due("9 mustSearch: the sample was not", true, () -> house.mustSearch(sample));
        Scenes.searchAll(house, sample, new int[] {0, 3, 0, 0, 0, 0});
        CHECKS.due("9 mustSearch: a sample that was searched", false, () -> house.mustSearch(sample));
    }

    private static void mustSearchElsewhere() {
        BorderHouse house = new BorderHouse();
        house.setGuarantee(0, 100);
        for (int wrong : WRONG_NUMBERS) {
            CHECKS.noSuchOne("9 mustSearch: consignment " + wrong, () -> house.mustSearch(wrong));
        }
        int number = Scenes.announced(house, 0, 0, new int[] {1, 0, 0, 0, 0, 0});
        CHECKS.noSuchOne("9 mustSearch: consignment 1", () -> house.mustSearch(1));
        house.setRisk(0, 0);
        CHECKS.due("9 mustSearch: under way", false, () -> house.mustSearch(number));
        house.setRisk(25, 0);
        house.arrive(number, 0);
        CHECKS.due("9 mustSearch: at the door", false, () -> house.mustSearch(number));
        house.bond(number, 0);
        house.setRisk(0, 0);
        CHECKS.due("9 mustSearch: in bond", false, () -> house.mustSearch(number));
        house.sendBack(number, 0, 0, 1);
        CHECKS.due("9 mustSearch: gone", false, () -> house.mustSearch(number));
    }

    private static void searchPapers() {
        BorderHouse house = new BorderHouse();
        int one = Scenes.atDoor(house, 0, 0, 10);
        int other = Scenes.atDoor(house, 0, 0, 10);
        CHECKS.due("10 search: as the manifest says", 0, () -> house.search(one, 0, 10));
        CHECKS.due("10 search: less is there", 1, () -> house.search(one, 0, 9));
        CHECKS.due("10 search: as the manifest says then", 1, () -> house.search(one, 0, 9));
        CHECKS.due("10 search: another sort is there", 2, () -> house.search(one, 5, 100));
        CHECKS.due("10 search: nothing is there", 3, () -> house.search(one, 0, 0));
        CHECKS.due("10 search: papers of each", 1, () -> house.search(other, 1, 1));
        CHECKS.due("10 search: the manifest gets it", 9 - 9, () -> house.manifest(one, 0));
        CHECKS.due("10 search: and the other sort", 100, () -> house.manifest(one, 5));
        CHECKS.due("10 search: not of the other one", 10, () -> house.manifest(other, 0));
        CHECKS.due("10 search: no version", 0, () -> house.risk(one));
        CHECKS.due("10 search: at the door still", BorderHouse.AT_DOOR, () -> house.state(one));
    }

    private static void searchEverySort() {
        for (int missing = 0; missing < 6; missing++) {
            BorderHouse house = new BorderHouse();
            house.setRisk(0, 0);
            house.setGuarantee(0, 1000);
            int number = Scenes.atDoor(house, 0, 0, 10);
            for (int sort = 5; sort >= 0; sort--) {
                if (sort != missing) {
                    house.search(number, sort, sort == 0 ? 10 : 0);
                    house.search(number, sort, sort == 0 ? 10 : 0);
                }
            }
            int last = missing;
            CHECKS.due("10 search: one sort is missing", true, () -> house.mustSearch(number));
            CHECKS.badState("10 search: so no bond", () -> house.bond(number, 0));
            CHECKS.due("10 search: the last sort", 1, () -> house.search(number, last, 50));
            CHECKS.due("10 search: all were", false, () -> house.mustSearch(number));
            CHECKS.due("10 search: again, and it stays so", 2, () -> house.search(number, last, 49));
            CHECKS.due("10 search: still all were", false, () -> house.mustSearch(number));
            CHECKS.due("10 search: so bond", last == 0 ? 49 : 59, () -> house.bond(number, 0));
        }
    }

    private static void searchBeforeItHasTo() {
        BorderHouse house = new BorderHouse();
        int number = Scenes.atDoor(house, 0, 0, 10);
        Scenes.searchAll(house, number, new int[] {10, 0, 0, 0, 0, 0});
        CHECKS.due("10 search: searched before the mark fell", 0, () -> house.setRisk(0, 0));
        int half = Scenes.atDoor(house, 0, 0, 10);
        house.search(half, 0, 10);
        CHECKS.due("10 search: searched in part", true, () -> house.mustSearch(half));
        CHECKS.due("10 search: of each by itself", false, () -> house.mustSearch(number));
    }

    private static void searchRefuses() {
        BorderHouse house = new BorderHouse();
        house.setGuarantee(0, 100);
        int number = Scenes.announced(house, 0, 3, new int[] {5, 0, 0, 0, 0, 0});
        for (int wrong : WRONG_NUMBERS) {
            CHECKS.noSuchOne("10 search: consignment " + wrong, () -> house.search(wrong, 0, 1));
            CHECKS.noSuchOne("10 search: consignment comes first", () -> house.search(wrong, 6, 101));
        }
        CHECKS.badState("10 search: under way", () -> house.search(number, 0, 4));
        for (int sort : new int[] {-1, 6, Integer.MIN_VALUE, Integer.MAX_VALUE}) {
            CHECKS.badArgument("10 search: sort comes before the state, " + sort, () -> house.search(number, sort, 1));
        }
        for (int found : new int[] {-1, 101, Integer.MIN_VALUE, Integer.MAX_VALUE}) {
            CHECKS.badArgument("10 search: found comes before the state, " + found, () -> house.search(number, 0, found));
        }
        house.arrive(number, 3);
        for (int sort : new int[] {-1, 6, Integer.MIN_VALUE, Integer.MAX_VALUE}) {
            CHECKS.badArgument("10 search: sort " + sort, () -> house.search(number, sort, 1));
        }
        for (int found : new int[] {-1, 101, Integer.MIN_VALUE, Integer.MAX_VALUE}) {
            CHECKS.badArgument("10 search: found " + found, () -> house.search(number, 0, found));
        }
        CHECKS.due("10 search: refused, so no paper", 0, () -> house.search(number, 0, 5));
        house.bond(number, 0);
        CHECKS.badState("10 search: in bond", () -> house.search(number, 0, 4));
        house.free(number, 0, 0, 5);
        CHECKS.badState("10 search: gone", () -> house.search(number, 0, 4));
        CHECKS.due("10 search: refused, so the manifest stays", 5, () -> house.manifest(number, 0));
    }

    private static void bondHolds() {
        BorderHouse house = new BorderHouse();
        house.setGuarantee(2, 1000);
        house.setSort(1, 7, 0);
        house.setSort(4, 11, 0);
        int number = Scenes.announced(house, 2, 3, new int[] {0, 9, 0, 0, 100, 0});
        house.arrive(number, 3);
        house.search(number, 4, 10);
        CHECKS.due("11 bond: goods times duties, by the papers", 173, () -> house.bond(number, 1));
        CHECKS.due("11 bond: in bond", BorderHouse.IN_BOND, () -> house.state(number));
        CHECKS.due("11 bond: held of its trader", 173, () -> house.held(2));
        CHECKS.due("11 bond: not of another", 0, () -> house.held(1));
        CHECKS.due("11 bond: nothing is paid", 0, () -> house.paid(2));
        CHECKS.due("11 bond: all goods are in the store", 9, () -> house.stored(1, 1));
        CHECKS.due("11 bond: of each sort", 10, () -> house.stored(4, 1));
        CHECKS.due("11 bond: not in another", 0, () -> house.stored(1, 0));
        CHECKS.due("11 bond: not in the last", 0, () -> house.stored(4, 2));
        house.setSort(1, 50, 0);
        CHECKS.due("11 bond: the duties were taken down", 14, () -> house.free(number, 1, 1, 2));
        int next = Scenes.atDoor(house, 2, 1, 2);
        CHECKS.due("11 bond: what is held for it, not for all", 100, () -> house.bond(next, 1));
        CHECKS.due("11 bond: held of both", 173 - 14 + 100, () -> house.held(2));
        CHECKS.due("11 bond: stored of both", 9, () -> house.stored(1, 1));
        int onTheWay = Scenes.announced(house, 2, 3, new int[] {0, 0, 1, 0, 0, 0});
        CHECKS.due("11 bond: one under way is in no store", 0, () -> house.stored(2, 0));
        house.arrive(onTheWay, 3);
        CHECKS.due("11 bond: one at the door is in no store", 0, () -> house.stored(2, 0));
    }

    private static void bondNothing() {
        BorderHouse house = new BorderHouse();
        int number = Scenes.atDoor(house, 3, 2, 10);
        house.search(number, 2, 0);
        CHECKS.due("11 bond: nothing is held for nothing", 0, () -> house.bond(number, 2));
        CHECKS.due("11 bond: it is gone by that", BorderHouse.GONE, () -> house.state(number));
        CHECKS.due("11 bond: nothing is held", 0, () -> house.held(3));
        CHECKS.badState("11 bond: gone", () -> house.bond(number, 2));
        int sample = house.announce(3, 1);
        house.setRisk(200, 1);
        house.amend(sample, 0, 1);
        house.arrive(sample, 1);
        house.search(sample, 0, 0);
        CHECKS.badState("11 bond: nothing, but it has to be searched", () -> house.bond(sample, 0));
        CHECKS.due("11 bond: refused, so at the door", BorderHouse.AT_DOOR, () -> house.state(sample));
        house.setSort(1, 0, 0);
        house.setRisk(200, 0);
        int free = Scenes.atDoor(house, 3, 1, 10);
        CHECKS.due("11 bond: no duty, no guarantee", 0, () -> house.bond(free, 0));
        CHECKS.due("11 bond: but there are goods", BorderHouse.IN_BOND, () -> house.state(free));
        CHECKS.due("11 bond: in the store", 10, () -> house.stored(1, 0));
    }

    private static void bondGuarantee() {
        BorderHouse house = new BorderHouse();
        house.setGuarantee(0, 30);
        house.setGuarantee(1, 1000000);
        int ten = Scenes.atDoor(house, 0, 0, 10);
        int twenty = Scenes.atDoor(house, 0, 1, 20);
        int one = Scenes.atDoor(house, 0, 2, 1);
        CHECKS.due("11 bond: ten", 10, () -> house.bond(ten, 0));
        house.setGuarantee(0, 29);
        CHECKS.badState("11 bond: one too few", () -> house.bond(twenty, 0));
        CHECKS.due("11 bond: refused, so at the door", BorderHouse.AT_DOOR, () -> house.state(twenty));
        CHECKS.due("11 bond: refused, so not held", 10, () -> house.held(0));
        CHECKS.due("11 bond: refused, so not stored", 0, () -> house.stored(1, 0));
        CHECKS.badState("11 bond: refused, so nothing to free", () -> house.free(twenty, 1, 0, 1));
        house.setGuarantee(0, 30);
        CHECKS.due("11 bond: the guarantee just reaches", 20, () -> house.bond(twenty, 0));
        CHECKS.badState("11 bond: it is all held", () -> house.bond(one, 0));
        house.sendBack(ten, 0, 0, 1);
        CHECKS.due("11 bond: one was freed", 1, () -> house.bond(one, 0));
        CHECKS.due("11 bond: all is held again", 30, () -> house.held(0));
        house.setGuarantee(2, 29999);
        for (int sort = 0; sort < 6; sort++) {
            house.setSort(sort, 50, 0);
        }
        int most = Scenes.announced(house, 2, 1, new int[] {100, 100, 100, 100, 100, 100});
        house.arrive(most, 1);
        CHECKS.badState("11 bond: the most that one owes", () -> house.bond(most, 0));
        house.setGuarantee(2, 30000);
        CHECKS.due("11 bond: the most that one owes", 30000, () -> house.bond(most, 0));
    }

    private static void bondRefuses() {
        BorderHouse house = new BorderHouse();
        house.setGuarantee(0, 100);
        house.setRisk(25, 1);
        int number = Scenes.announced(house, 0, 3, new int[] {5, 0, 0, 0, 0, 0});
        for (int wrong : WRONG_NUMBERS) {
            CHECKS.noSuchOne("11 bond: consignment " + wrong, () -> house.bond(wrong, 0));
            CHECKS.noSuchOne("11 bond: consignment comes first", () -> house.bond(wrong, 3));
        }
        CHECKS.badState("11 bond: under way", () -> house.bond(number, 0));
        for (int store : new int[] {-1, 3, Integer.MIN_VALUE, Integer.MAX_VALUE}) {
            CHECKS.badArgument("11 bond: store comes before the state, " + store, () -> house.bond(number, store));
        }
        house.arrive(number, 3);
        CHECKS.badState("11 bond: has to be searched", () -> house.bond(number, 0));
        Scenes.searchAll(house, number, new int[] {5, 0, 0, 0, 0, 0});
        for (int store : new int[] {-1, 3, Integer.MIN_VALUE, Integer.MAX_VALUE}) {
            CHECKS.badArgument("11 bond: store " + store, () -> house.bond(number, store));
        }
        CHECKS.due("11 bond: was searched", 5, () -> house.bond(number, 2));
        CHECKS.badState("11 bond: in bond", () -> house.bond(number, 1));
        CHECKS.due("11 bond: refused, so held once", 5, () -> house.held(0));
        CHECKS.due("11 bond: refused, so stored where it was", 5, () -> house.stored(0, 2));
    }
}
