/** Short ways to bring a consignment somewhere. */
final class Scenes {
    private Scenes() {
    }

    /** A consignment under way; its version is how many sorts it has. */
    static int announced(BorderHouse house, int trader, int seal, int[] quantities) {
        int number = house.announce(trader, seal);
        for (int sort = 0; sort < quantities.length; sort++) {
            if (quantities[sort] != 0) {
                house.amend(number, sort, quantities[sort]);
            }
        }
        return number;
    }

    /** A consignment of one sort and one amendment at the door, its seal whole. */
    static int atDoor(BorderHouse house, int trader, int sort, int quantity) {
        int number = house.announce(trader, 77);
        house.amend(number, sort, quantity);
        house.arrive(number, 77);
        return number;
    }

    /** A consignment of one sort in a store; its trader has the highest guarantee then. */
    static int inBond(BorderHouse house, int trader, int sort, int quantity, int store) {
        house.setGuarantee(trader, 1000000);
        int number = atDoor(house, trader, sort, quantity);
        house.bond(number, store);
        return number;
    }

    static void searchAll(BorderHouse house, int number, int[] found) {
        for (int sort = 0; sort < 6; sort++) {
            house.search(number, sort, found[sort]);
        }
    }
}
