/**
 * The range of each parameter of each method: the least and the largest value are taken, with the
 * answers that are written here; the one just beyond each end, and the ends of int, are refused.
 */
public final class RangesTest {
    private static final Checks CHECKS = new Checks("RangesTest");

    private interface Ready {
        void make(BorderHouse house);
    }

    private interface Use {
        Object of(BorderHouse house, int value);
    }

    public static void main(String[] args) {
        rules();
        onTheWay();
        atTheDoor();
        moving();
        leaving("13 free", BorderHouse::free);
        leaving("14 sendBack", BorderHouse::sendBack);
        whatIs();
        consignments();
        CHECKS.finish();
    }

    private static void range(String what, int least, int most, Ready ready, Use use, Object atLeast, Object atMost) {
        CHECKS.due(what + " " + least, atLeast, () -> use.of(made(ready), least));
        CHECKS.due(what + " " + most, atMost, () -> use.of(made(ready), most));
        for (int beyond : new int[] {least - 1, most + 1, Integer.MIN_VALUE, Integer.MAX_VALUE}) {
            CHECKS.badArgument(what + " " + beyond, () -> use.of(made(ready), beyond));
        }
    }

    private static BorderHouse made(Ready ready) {
        BorderHouse house = new BorderHouse();
        ready.make(house);
        return house;
    }

    private static void nothing(BorderHouse house) {
    }

    /** Number 0, of trader 0 with the seal 500, has 50 of each sort, by six amendments. */
    private static void underWay(BorderHouse house) {
        house.setGuarantee(0, 1000000);
        Scenes.announced(house, 0, 500, new int[] {50, 50, 50, 50, 50, 50});
    }

    private static void atDoor(BorderHouse house) {
        underWay(house);
        house.arrive(0, 500);
    }

    /** Number 0 has 20 of each sort in store 0, 18 in store 1, 12 in store 2. */
    private static void inBond(BorderHouse house) {
        atDoor(house);
        house.bond(0, 0);
        for (int sort = 0; sort < 6; sort++) {
            house.move(0, sort, 0, 1, 18);
            house.move(0, sort, 0, 2, 12);
        }
    }

    private static void rules() {
        range("2 setSort: sort", 0, 5, RangesTest::atDoor, (house, sort) -> {
            house.setSort(sort, 50, 14);
            return house.risk(0) * 10000 + house.bond(0, 0);
        }, 24 * 10000 + 250 + 2500, 24 * 10000 + 250 + 2500);
        range("2 setSort: duty", 0, 50, RangesTest::atDoor, (house, duty) -> {
            house.setSort(3, duty, 0);
            return house.bond(0, 0);
        }, 250, 250 + 2500);
        range("2 setSort: weight", 0, 20, RangesTest::atDoor, (house, weight) -> {
            house.setSort(3, 1, weight);
            return house.risk(0);
        }, 10, 30);
        range("3 setRisk: mark", 0, 200, RangesTest::atDoor, (house, mark) -> house.setRisk(mark, 0), 1, 0);
        range("3 setRisk: sample", 0, 10, RangesTest::nothing, (house, sample) -> {
            house.setRisk(200, sample);
            for (int k = 0; k < 10; k++) {
                Scenes.atDoor(house, 0, 0, 1);
            }
            return house.setRisk(200, sample);
        }, 0, 1);
        range("4 setGuarantee: trader", 0, 3, RangesTest::nothing, (house, trader) -> {
            house.setGuarantee(trader, 7);
            return house.setGuarantee(trader, 8);
        }, 7, 7);
        range("4 setGuarantee: money", 0, 1000000, RangesTest::nothing, (house, money) -> {
            house.setGuarantee(0, money);
            return house.setGuarantee(0, 5);
        }, 0, 1000000);
    }

    private static void onTheWay() {
        range("5 announce: trader", 0, 3, RangesTest::nothing, (house, trader) -> {
            int number = house.announce(trader, 5);
            house.setGuarantee(trader, 8);
            house.amend(number, 0, 8);
            house.arrive(number, 5);
            house.bond(number, 0);
            return house.held(trader);
        }, 8, 8);
        range("5 announce: seal", 0, 999, RangesTest::nothing, (house, seal) -> {
            int number = house.announce(0, seal);
            house.amend(number, 0, 8);
            house.arrive(number, seal);
            return house.risk(number);
        }, 0, 0);
        range("6 amend: sort", 0, 5, RangesTest::underWay, (house, sort) ->
                house.amend(0, sort, 49) * 1000 + house.manifest(0, sort), 7049, 7049);
        range("6 amend: quantity", 0, 100, RangesTest::underWay, (house, quantity) ->
                house.amend(0, 2, quantity) * 1000 + house.manifest(0, 2), 7000, 7100);
        range("7 arrive: another seal", 0, 999, RangesTest::underWay, (house, seal) ->
                house.arrive(0, seal) + " " + house.risk(0), "true 40", "true 40");
        range("7 arrive: the seal", 0, 999, house -> {
            Scenes.announced(house, 0, 0, new int[] {1, 0, 0, 0, 0, 0});
            Scenes.announced(house, 0, 999, new int[] {1, 0, 0, 0, 0, 0});
        }, (house, seal) -> house.arrive(seal == 0 ? 0 : 1, seal), false, false);
    }

    private static void atTheDoor() {
        range("10 search: sort", 0, 5, RangesTest::atDoor, (house, sort) ->
                house.search(0, sort, 49) * 1000 + house.manifest(0, sort), 1049, 1049);
        range("10 search: found", 0, 100, RangesTest::atDoor, (house, found) ->
                house.search(0, 2, found) * 1000 + house.manifest(0, 2), 1000, 1100);
        range("11 bond: store", 0, 2, RangesTest::atDoor, (house, store) ->
                house.bond(0, store) * 1000 + house.stored(5, store), 300050, 300050);
    }

    private static void moving() {
        range("12 move: sort", 0, 5, RangesTest::inBond, (house, sort) -> house.move(0, sort, 0, 1, 5), 23, 23);
        range("12 move: from", 0, 2, RangesTest::inBond, (house, from) -> house.move(0, 4, from, 1, 12), 30, 30);
        range("12 move: to", 0, 2, RangesTest::inBond, (house, to) -> house.move(0, 4, 1, to, 18), 38, 30);
        range("12 move: quantity", 1, 100, house -> Scenes.inBond(house, 0, 0, 100, 2),
                (house, quantity) -> house.move(0, 0, 2, 0, quantity), 1, 100);
    }

    private interface Leaving {
        int out(BorderHouse house, int consignment, int sort, int store, int quantity);
    }

    private static void leaving(String name, Leaving leaving) {
        range(name + ": sort", 0, 5, RangesTest::inBond, (house, sort) ->
                leaving.out(house, 0, sort, 1, 8) * 1000 + house.stored(sort, 1), 8010, 8010);
        range(name + ": store", 0, 2, RangesTest::inBond, (house, store) ->
                leaving.out(house, 0, 4, store, 8) * 1000 + house.stored(4, store), 8012, 8004);
        range(name + ": quantity", 1, 100, house -> Scenes.inBond(house, 0, 0, 100, 2), (house, quantity) ->
                leaving.out(house, 0, 0, 2, quantity) * 1000 + house.stored(0, 2), 1099, 100000);
    }

    private static void whatIs() {
        range("16 manifest: sort", 0, 5, house -> Scenes.announced(house, 0, 1, new int[] {7, 0, 0, 0, 0, 8}),
                (house, sort) -> house.manifest(0, sort), 7, 8);
        range("17 stored: sort", 0, 5, RangesTest::inBond, (house, sort) -> house.stored(sort, 1), 18, 18);
        range("17 stored: store", 0, 2, RangesTest::inBond, (house, store) -> house.stored(5, store), 20, 12);
        Ready firstAndLast = house -> {
            int first = Scenes.inBond(house, 0, 0, 9, 0);
            int last = Scenes.inBond(house, 3, 0, 10, 0);
            house.free(first, 0, 0, 1);
            house.free(last, 0, 0, 3);
        };
        range("18 held: trader", 0, 3, firstAndLast, (house, trader) -> house.held(trader), 8, 7);
        range("19 paid: trader", 0, 3, firstAndLast, (house, trader) -> house.paid(trader), 1, 3);
    }

    /** Numbers run from 0 to one less than were announced, 14 at most. */
    private static void consignments() {
        numbers("6 amend", BorderHouse.UNDER_WAY, (house, number) -> house.amend(number, 0, 51), 7);
        numbers("7 arrive", BorderHouse.UNDER_WAY, (house, number) -> house.arrive(number, 500), false);
        numbers("8 risk", BorderHouse.AT_DOOR, BorderHouse::risk, 10);
        numbers("9 mustSearch", BorderHouse.AT_DOOR, BorderHouse::mustSearch, false);
        numbers("10 search", BorderHouse.AT_DOOR, (house, number) -> house.search(number, 0, 51), 1);
        numbers("11 bond", BorderHouse.AT_DOOR, (house, number) -> house.bond(number, 0), 300);
        numbers("12 move", BorderHouse.IN_BOND, (house, number) -> house.move(number, 0, 0, 1, 9), 9);
        numbers("13 free", BorderHouse.IN_BOND, (house, number) -> house.free(number, 0, 0, 9), 9);
        numbers("14 sendBack", BorderHouse.IN_BOND, (house, number) -> house.sendBack(number, 0, 0, 9), 9);
        numbers("15 state", BorderHouse.AT_DOOR, BorderHouse::state, BorderHouse.AT_DOOR);
        numbers("16 manifest", BorderHouse.UNDER_WAY, (house, number) -> house.manifest(number, 5), 50);
    }

    private static void numbers(String name, int state, Use use, Object answer) {
        CHECKS.noSuchOne(name + ": consignment 0 of none", () -> use.of(broughtTo(state, 0), 0));
        CHECKS.due(name + ": consignment 0 of one", answer, () -> use.of(broughtTo(state, 1), 0));
        CHECKS.noSuchOne(name + ": consignment 1 of one", () -> use.of(broughtTo(state, 1), 1));
        CHECKS.noSuchOne(name + ": consignment 14 of 14", () -> use.of(broughtTo(state, 14), 14));
        CHECKS.due(name + ": consignment 0 of 15", answer, () -> use.of(broughtTo(state, 15), 0));
        CHECKS.due(name + ": consignment 14 of 15", answer, () -> use.of(broughtTo(state, 15), 14));
        for (int number : new int[] {-1, 15, 16, Integer.MIN_VALUE, Integer.MAX_VALUE}) {
            CHECKS.noSuchOne(name + ": consignment " + number + " of 15", () -> use.of(broughtTo(state, 15), number));
        }
    }

    private static BorderHouse broughtTo(int state, int count) {
        BorderHouse house = new BorderHouse();
        house.setGuarantee(0, 1000000);
        for (int number = 0; number < count; number++) {
            Scenes.announced(house, 0, 500, new int[] {50, 50, 50, 50, 50, 50});
            if (state >= BorderHouse.AT_DOOR) {
                house.arrive(number, 500);
            }
            if (state >= BorderHouse.IN_BOND) {
                house.bond(number, 0);
            }
        }
        return house;
    }
}
