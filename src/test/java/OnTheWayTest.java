/** Promises 5 to 7: announce, amend, arrive. */
public final class OnTheWayTest {
    private static final Checks CHECKS = new Checks("OnTheWayTest");

    public static void main(String[] args) {
        announceNumbers();
        announceRefuses();
        amendVersions();
        amendRefuses();
        amendOnlyUnderWay();
        arriveAnswers();
        arriveSeals();
        arriveSamples();
        arriveSampleChanges();
        arriveRefuses();
        CHECKS.finish();
    }

    private static void announceNumbers() {
        BorderHouse house = new BorderHouse();
        for (int k = 0; k < 15; k++) {
            int want = k;
            CHECKS.due("5 announce: numbers from 0 on", want, () -> house.announce(want % 4, want * 71));
            CHECKS.due("5 announce: under way", BorderHouse.UNDER_WAY, () -> house.state(want));
            CHECKS.due("5 announce: nothing in the manifest", 0, () -> house.manifest(want, want % 6));
        }
        CHECKS.badState("5 announce: the 16th", () -> house.announce(0, 0));
        CHECKS.badState("5 announce: the 16th again", () -> house.announce(3, 999));
        CHECKS.noSuchOne("5 announce: there is no number 15", () -> house.state(15));
        CHECKS.badArgument("5 announce: the trader comes first", () -> house.announce(4, 0));
        CHECKS.badArgument("5 announce: the seal comes first", () -> house.announce(0, 1000));
        BorderHouse gone = new BorderHouse();
        for (int k = 0; k < 15; k++) {
            int number = Scenes.inBond(gone, 0, 0, 1, 0);
            gone.sendBack(number, 0, 0, 1);
        }
        CHECKS.badState("5 announce: those that are gone count", () -> gone.announce(0, 0));
    }

    private static void announceRefuses() {
        BorderHouse house = new BorderHouse();
        for (int trader : new int[] {-1, 4, Integer.MIN_VALUE, Integer.MAX_VALUE}) {
            CHECKS.badArgument("5 announce: trader " + trader, () -> house.announce(trader, 0));
        }
        for (int seal : new int[] {-1, 1000, Integer.MIN_VALUE, Integer.MAX_VALUE}) {
            CHECKS.badArgument("5 announce: seal " + seal, () -> house.announce(0, seal));
        }
        CHECKS.noSuchOne("5 announce: refused, so there is none", () -> house.state(0));
        CHECKS.due("5 announce: the edges are in", 0, () -> house.announce(3, 999));
        CHECKS.due("5 announce: the edges are in", 1, () -> house.announce(0, 0));
    }

    private static void amendVersions() {
        BorderHouse house = new BorderHouse();
        int one = house.announce(0, 0);
        int other = house.announce(1, 0);
        CHECKS.due("6 amend: the first", 1, () -> house.amend(one, 0, 100));
        CHECKS.due("6 amend: the second", 2, () -> house.amend(one, 5, 1));
        CHECKS.due("6 amend: each has its own", 1, () -> house.amend(other, 0, 7));
        CHECKS.due("6 amend: back to nothing", 3, () -> house.amend(one, 0, 0));
        CHECKS.due("6 amend: the quantity is set, not added", 4, () -> house.amend(one, 5, 3));
        CHECKS.due("6 amend: sort 0", 0, () -> house.manifest(one, 0));
        CHECKS.due("6 amend: sort 5", 3, () -> house.manifest(one, 5));
        CHECKS.due("6 amend: the other", 7, () -> house.manifest(other, 0));
        CHECKS.due("6 amend: the other sort", 0, () -> house.manifest(other, 5));
    }

    private static void amendRefuses() {
        BorderHouse house = new BorderHouse();
        int one = house.announce(0, 0);
        house.amend(one, 2, 5);
        for (int number : new int[] {-1, 1, 14, 15, Integer.MIN_VALUE, Integer.MAX_VALUE}) {
            CHECKS.noSuchOne("6 amend: consignment " + number, () -> house.amend(number, 0, 1));
            CHECKS.noSuchOne("6 amend: consignment comes first", () -> house.amend(number, 6, 101));
        }
        for (int sort : new int[] {-1, 6, Integer.MIN_VALUE, Integer.MAX_VALUE}) {
            CHECKS.badArgument("6 amend: sort " + sort, () -> house.amend(one, sort, 1));
        }
        for (int quantity : new int[] {-1, 101, Integer.MIN_VALUE, Integer.MAX_VALUE}) {
            CHECKS.badArgument("6 amend: quantity " + quantity, () -> house.amend(one, 2, quantity));
        }
        CHECKS.badState("6 amend: says so already", () -> house.amend(one, 2, 5));
        CHECKS.badState("6 amend: says 0 already", () -> house.amend(one, 3, 0));
        CHECKS.due("6 amend: refused, so it says the same", 5, () -> house.manifest(one, 2));
        CHECKS.due("6 amend: refused, so no version", 2, () -> house.amend(one, 2, 6));
    }

    private static void amendOnlyUnderWay() {
        BorderHouse house = new BorderHouse();
        house.setGuarantee(0, 100);
        int one = Scenes.atDoor(house, 0, 1, 10);
        CHECKS.badState("6 amend: at the door", () -> house.amend(one, 1, 9));
        CHECKS.badArgument("6 amend: the sort comes before the state", () -> house.amend(one, 6, 9));
        CHECKS.badArgument("6 amend: the quantity comes before the state", () -> house.amend(one, 1, 101));
        house.bond(one, 0);
        CHECKS.badState("6 amend: in bond", () -> house.amend(one, 1, 9));
        house.free(one, 1, 0, 10);
        CHECKS.badState("6 amend: gone", () -> house.amend(one, 1, 9));
        CHECKS.due("6 amend: refused, so it says the same", 10, () -> house.manifest(one, 1));
        CHECKS.due("6 amend: refused, so no version", 0, () -> house.risk(one));
    }

    private static void arriveAnswers() {
        BorderHouse house = new BorderHouse();
        house.setSort(0, 1, 20);
        house.setSort(1, 1, 5);
        house.setRisk(20, 0);
        int high = Scenes.announced(house, 0, 3, new int[] {1, 0, 0, 0, 0, 0});
        int low = Scenes.announced(house, 0, 3, new int[] {0, 1, 0, 0, 0, 0});
        CHECKS.due("7 arrive: at the mark", true, () -> house.arrive(high, 3));
        CHECKS.due("7 arrive: at the door", BorderHouse.AT_DOOR, () -> house.state(high));
        CHECKS.due("7 arrive: below the mark", false, () -> house.arrive(low, 3));
        CHECKS.due("7 arrive: the manifest stays", 1, () -> house.manifest(low, 1));
    }

    private static void arriveSeals() {
        BorderHouse house = new BorderHouse();
        int whole = Scenes.announced(house, 0, 999, new int[] {1, 0, 0, 0, 0, 0});
        int broken = Scenes.announced(house, 0, 0, new int[] {1, 0, 0, 0, 0, 0});
        CHECKS.due("7 arrive: the seal matches", false, () -> house.arrive(whole, 999));
        CHECKS.due("7 arrive: risk with a whole seal", 0, () -> house.risk(whole));
        CHECKS.due("7 arrive: another number is read", true, () -> house.arrive(broken, 999));
        CHECKS.due("7 arrive: risk with a broken seal", 30, () -> house.risk(broken));
    }

    private static void arriveSamples() {
        for (int step = 0; step <= 10; step++) {
            BorderHouse house = new BorderHouse();
            house.setRisk(200, step);
            for (int count = 1; count <= 15; count++) {
                boolean want = step != 0 && count % step == 0;
                int number = Scenes.announced(house, 0, 0, new int[] {1, 0, 0, 0, 0, 0});
                CHECKS.due("7 arrive: number " + count + " with sample " + step, want, () -> house.arrive(number, 0));
                CHECKS.due("7 arrive: mustSearch then", want, () -> house.mustSearch(number));
            }
        }
    }

    private static void arriveSampleChanges() {
        BorderHouse house = new BorderHouse();
        house.setRisk(200, 3);
        int[] numbers = new int[7];
        for (int k = 0; k < 7; k++) {
            numbers[k] = Scenes.announced(house, k % 4, 0, new int[] {0, 1, 0, 0, 0, 0});
        }
        // Those that come are counted, not those that are announced, so they come from the last on.
        CHECKS.due("7 arrive: count 1, sample 3", false, () -> house.arrive(numbers[6], 0));
        CHECKS.due("7 arrive: count 2, sample 3", false, () -> house.arrive(numbers[5], 0));
        CHECKS.badState("7 arrive: one that is refused does not count", () -> house.arrive(numbers[5], 0));
        CHECKS.due("7 arrive: count 3, sample 3", true, () -> house.arrive(numbers[4], 0));
        house.setRisk(200, 0);
        CHECKS.due("7 arrive: count 4, sample 0", false, () -> house.arrive(numbers[3], 0));
        house.setRisk(200, 5);
        CHECKS.due("7 arrive: count 5, sample 5", true, () -> house.arrive(numbers[2], 0));
        house.setRisk(200, 2);
        CHECKS.due("7 arrive: count 6, sample 2", true, () -> house.arrive(numbers[1], 0));
        CHECKS.due("7 arrive: count 7, sample 2", false, () -> house.arrive(numbers[0], 0));
        CHECKS.due("7 arrive: count 4 never becomes one", false, () -> house.mustSearch(numbers[3]));
        CHECKS.due("7 arrive: count 2 never becomes one", false, () -> house.mustSearch(numbers[5]));
        CHECKS.due("7 arrive: count 3 stays one", true, () -> house.mustSearch(numbers[4]));
    }

    private static void arriveRefuses() {
        BorderHouse house = new BorderHouse();
        house.setRisk(25, 2);
        int empty = house.announce(0, 9);
        for (int number : new int[] {-1, 1, 14, 15, Integer.MIN_VALUE, Integer.MAX_VALUE}) {
            CHECKS.noSuchOne("7 arrive: consignment " + number, () -> house.arrive(number, 0));
            CHECKS.noSuchOne("7 arrive: consignment comes first", () -> house.arrive(number, 1000));
        }
        for (int seal : new int[] {-1, 1000, Integer.MIN_VALUE, Integer.MAX_VALUE}) {
            CHECKS.badArgument("7 arrive: seal " + seal, () -> house.arrive(empty, seal));
        }
        CHECKS.badState("7 arrive: nothing in the manifest", () -> house.arrive(empty, 9));
        house.amend(empty, 4, 1);
        house.amend(empty, 4, 0);
        CHECKS.badState("7 arrive: nothing in the manifest again", () -> house.arrive(empty, 9));
        CHECKS.due("7 arrive: refused, so under way", BorderHouse.UNDER_WAY, () -> house.state(empty));
        house.amend(empty, 5, 1);
        CHECKS.due("7 arrive: those refused do not count", false, () -> house.arrive(empty, 9));
        CHECKS.badState("7 arrive: at the door already", () -> house.arrive(empty, 8));
        CHECKS.due("7 arrive: refused, so the seal is whole", 4, () -> house.risk(empty));
        CHECKS.badArgument("7 arrive: the seal comes before the state", () -> house.arrive(empty, 1000));
        house.setGuarantee(0, 10);
        house.bond(empty, 0);
        CHECKS.badState("7 arrive: in bond", () -> house.arrive(empty, 9));
        house.free(empty, 5, 0, 1);
        CHECKS.badState("7 arrive: gone", () -> house.arrive(empty, 9));
        int second = Scenes.announced(house, 0, 1, new int[] {1, 0, 0, 0, 0, 0});
        CHECKS.due("7 arrive: the second that comes", true, () -> house.arrive(second, 1));
    }
}
