/** Promises 15 to 19: state, manifest, stored, held, paid. */
public final class WhatIsTest {
    private static final Checks CHECKS = new Checks("WhatIsTest");
    private static final int[] WRONG_NUMBERS = {-1, 1, 14, 15, Integer.MIN_VALUE, Integer.MAX_VALUE};

    public static void main(String[] args) {
        constants();
        states();
        manifests();
        storedSums();
        heldAndPaid();
        refusals();
        CHECKS.finish();
    }

    private static void constants() {
        CHECKS.due("15 UNDER_WAY", 0, () -> BorderHouse.UNDER_WAY);
        CHECKS.due("15 AT_DOOR", 1, () -> BorderHouse.AT_DOOR);
        CHECKS.due("15 IN_BOND", 2, () -> BorderHouse.IN_BOND);
        CHECKS.due("15 GONE", 3, () -> BorderHouse.GONE);
    }

    private static void states() {
        BorderHouse house = new BorderHouse();
        house.setGuarantee(0, 100);
        int number = house.announce(0, 1);
        CHECKS.due("15 state: announced", 0, () -> house.state(number));
        house.amend(number, 0, 2);
        CHECKS.due("15 state: amended", 0, () -> house.state(number));
        house.arrive(number, 1);
        CHECKS.due("15 state: at the door", 1, () -> house.state(number));
        Scenes.searchAll(house, number, new int[] {2, 0, 0, 0, 0, 0});
        CHECKS.due("15 state: searched", 1, () -> house.state(number));
        house.bond(number, 0);
        CHECKS.due("15 state: in bond", 2, () -> house.state(number));
        house.move(number, 0, 0, 1, 2);
        CHECKS.due("15 state: moved", 2, () -> house.state(number));
        house.free(number, 0, 1, 1);
        CHECKS.due("15 state: freed in part", 2, () -> house.state(number));
        house.sendBack(number, 0, 1, 1);
        CHECKS.due("15 state: gone", 3, () -> house.state(number));
        int next = house.announce(0, 1);
        CHECKS.due("15 state: the next", 0, () -> house.state(next));
        CHECKS.due("15 state: gone is gone", 3, () -> house.state(number));
    }

    private static void manifests() {
        BorderHouse house = new BorderHouse();
        house.setGuarantee(0, 1000);
        int[] quantities = {1, 20, 100, 7, 0, 13};
        int number = Scenes.announced(house, 0, 1, quantities);
        for (int sort = 0; sort < 6; sort++) {
            int s = sort;
            CHECKS.due("16 manifest: sort " + s, quantities[s], () -> house.manifest(number, s));
        }
        house.arrive(number, 1);
        house.search(number, 4, 3);
        CHECKS.due("16 manifest: by a paper", 3, () -> house.manifest(number, 4));
        house.bond(number, 1);
        house.free(number, 4, 1, 2);
        house.move(number, 1, 1, 0, 20);
        house.sendBack(number, 1, 0, 20);
        CHECKS.due("16 manifest: freeing changes nothing", 3, () -> house.manifest(number, 4));
        CHECKS.due("16 manifest: sending back changes nothing", 20, () -> house.manifest(number, 1));
        int second = house.announce(0, 1);
        CHECKS.due("16 manifest: of each", 0, () -> house.manifest(second, 2));
    }

    private static void storedSums() {
        BorderHouse house = new BorderHouse();
        for (int trader = 0; trader < 4; trader++) {
            house.setGuarantee(trader, 1000000);
        }
        for (int k = 0; k < 15; k++) {
            int number = Scenes.announced(house, k % 4, 1, new int[] {100, 0, 0, 0, 0, k + 1});
            house.arrive(number, 1);
            house.bond(number, k < 14 ? 2 : 0);
        }
        CHECKS.due("17 stored: of all consignments", 1400, () -> house.stored(0, 2));
        CHECKS.due("17 stored: the last one's", 100, () -> house.stored(0, 0));
        CHECKS.due("17 stored: another sort", 105, () -> house.stored(5, 2));
        CHECKS.due("17 stored: another sort of the last one", 15, () -> house.stored(5, 0));
        CHECKS.due("17 stored: an empty store", 0, () -> house.stored(0, 1));
        CHECKS.due("17 stored: a sort that there is not", 0, () -> house.stored(1, 2));
        house.move(3, 5, 2, 1, 4);
        CHECKS.due("17 stored: moved away", 101, () -> house.stored(5, 2));
        CHECKS.due("17 stored: moved here", 4, () -> house.stored(5, 1));
        house.free(0, 0, 2, 99);
        house.sendBack(1, 0, 2, 1);
        CHECKS.due("17 stored: freed and sent back", 1300, () -> house.stored(0, 2));
    }

    private static void heldAndPaid() {
        BorderHouse house = new BorderHouse();
        for (int sort = 0; sort < 6; sort++) {
            house.setSort(sort, sort + 1, 0);
        }
        int[] numbers = new int[12];
        for (int k = 0; k < 12; k++) {
            numbers[k] = Scenes.inBond(house, k % 4, k % 6, 10, k % 3);
        }
        // Trader 0 has the sorts 0, 4, 2; trader 1 has 1, 5, 3; trader 2 has 2, 0, 4; trader 3 has 3, 1, 5.
        CHECKS.due("18 held: trader 0", 90, () -> house.held(0));
        CHECKS.due("18 held: trader 1", 120, () -> house.held(1));
        CHECKS.due("18 held: trader 2", 90, () -> house.held(2));
        CHECKS.due("18 held: trader 3", 120, () -> house.held(3));
        house.free(numbers[5], 5, 2, 10);
        house.free(numbers[9], 3, 0, 1);
        house.sendBack(numbers[1], 1, 1, 10);
        house.sendBack(numbers[2], 2, 2, 3);
        CHECKS.due("18 held: untouched", 90, () -> house.held(0));
        CHECKS.due("18 held: freed and sent back", 36, () -> house.held(1));
        CHECKS.due("18 held: sent back", 81, () -> house.held(2));
        CHECKS.due("19 paid: nothing", 0, () -> house.paid(0));
        CHECKS.due("19 paid: what was freed", 64, () -> house.paid(1));
        CHECKS.due("19 paid: sending back pays nothing", 0, () -> house.paid(2));
        CHECKS.due("19 paid: nothing of another", 0, () -> house.paid(3));
        house.setGuarantee(0, 90);
        CHECKS.due("18 held: is not the guarantee", 36, () -> house.held(1));
    }

    private static void refusals() {
        BorderHouse house = new BorderHouse();
        int number = Scenes.inBond(house, 0, 0, 1, 0);
        for (int wrong : WRONG_NUMBERS) {
            CHECKS.noSuchOne("15 state: consignment " + wrong, () -> house.state(wrong));
            CHECKS.noSuchOne("16 manifest: consignment " + wrong, () -> house.manifest(wrong, 0));
            CHECKS.noSuchOne("16 manifest: consignment comes first", () -> house.manifest(wrong, 6));
        }
        for (int sort : new int[] {-1, 6, Integer.MIN_VALUE, Integer.MAX_VALUE}) {
            CHECKS.badArgument("16 manifest: sort " + sort, () -> house.manifest(number, sort));
            CHECKS.badArgument("17 stored: sort " + sort, () -> house.stored(sort, 0));
        }
        for (int store : new int[] {-1, 3, Integer.MIN_VALUE, Integer.MAX_VALUE}) {
            CHECKS.badArgument("17 stored: store " + store, () -> house.stored(0, store));
        }
        for (int trader : new int[] {-1, 4, Integer.MIN_VALUE, Integer.MAX_VALUE}) {
            CHECKS.badArgument("18 held: trader " + trader, () -> house.held(trader));
            CHECKS.badArgument("19 paid: trader " + trader, () -> house.paid(trader));
        }
    }
}
