/** Promises 12 to 14: move, free, sendBack. */
public final class InBondTest {
    private static final Checks CHECKS = new Checks("InBondTest");
    private static final int[] WRONG_NUMBERS = {-1, 1, 14, 15, Integer.MIN_VALUE, Integer.MAX_VALUE};

    /** free and sendBack, which refuse the same. */
    private interface Leaving {
        int out(BorderHouse house, int consignment, int sort, int store, int quantity);
    }

    public static void main(String[] args) {
        moveGoods();
        moveOwnGoodsOnly();
        moveRefuses();
        moveRefusesInOrder();
        freePays();
        sendBackPaysNothing();
        partsAndGone();
        leavingRefuses("13 free", (house, consignment, sort, store, quantity) ->
                house.free(consignment, sort, store, quantity));
        leavingRefuses("14 sendBack", (house, consignment, sort, store, quantity) ->
                house.sendBack(consignment, sort, store, quantity));
        leavingElsewhere("13 free", (house, consignment, sort, store, quantity) ->
                house.free(consignment, sort, store, quantity));
        leavingElsewhere("14 sendBack", (house, consignment, sort, store, quantity) ->
                house.sendBack(consignment, sort, store, quantity));
        CHECKS.finish();
    }

    private static void moveGoods() {
        for (int from = 0; from < 3; from++) {
            for (int step = 1; step < 3; step++) {
                BorderHouse house = new BorderHouse();
                int a = from;
                int b = (from + step) % 3;
                int c = 3 - a - b;
                int number = Scenes.inBond(house, 1, 4, 100, a);
                CHECKS.due("12 move: one", 1, () -> house.move(number, 4, a, b, 1));
                CHECKS.due("12 move: all that is there then", 31, () -> house.move(number, 4, a, b, 30));
                CHECKS.due("12 move: the one store", 69, () -> house.stored(4, a));
                CHECKS.due("12 move: the other store", 31, () -> house.stored(4, b));
                CHECKS.due("12 move: the third store", 0, () -> house.stored(4, c));
                CHECKS.due("12 move: back", 100, () -> house.move(number, 4, b, a, 31));
                CHECKS.due("12 move: all at once", 100, () -> house.move(number, 4, a, c, 100));
                CHECKS.due("12 move: in bond still", BorderHouse.IN_BOND, () -> house.state(number));
                CHECKS.due("12 move: held as before", 100, () -> house.held(1));
                CHECKS.due("12 move: nothing is paid", 0, () -> house.paid(1));
                CHECKS.due("12 move: it can leave from there", 100, () -> house.free(number, 4, c, 100));
            }
        }
    }

    private static void moveOwnGoodsOnly() {
        BorderHouse house = new BorderHouse();
        int one = Scenes.inBond(house, 0, 2, 10, 0);
        int other = Scenes.inBond(house, 0, 2, 20, 1);
        CHECKS.due("12 move: how much it has, not all", 4, () -> house.move(one, 2, 0, 1, 4));
        CHECKS.due("12 move: all are stored", 24, () -> house.stored(2, 1));
        CHECKS.badState("12 move: not another one's", () -> house.move(one, 2, 1, 2, 5));
        CHECKS.badState("12 move: not from where it has none", () -> house.move(other, 2, 0, 1, 1));
        CHECKS.due("12 move: all its own", 4, () -> house.move(one, 2, 1, 2, 4));
        CHECKS.badState("12 move: not another sort", () -> house.move(one, 3, 0, 1, 1));
    }

    private static void moveRefuses() {
        BorderHouse house = new BorderHouse();
        int number = Scenes.inBond(house, 0, 0, 100, 0);
        for (int sort : new int[] {-1, 6, Integer.MIN_VALUE, Integer.MAX_VALUE}) {
            CHECKS.badArgument("12 move: sort " + sort, () -> house.move(number, sort, 0, 1, 1));
        }
        for (int store : new int[] {-1, 3, Integer.MIN_VALUE, Integer.MAX_VALUE}) {
            CHECKS.badArgument("12 move: from " + store, () -> house.move(number, 0, store, 1, 1));
            CHECKS.badArgument("12 move: to " + store, () -> house.move(number, 0, 0, store, 1));
            CHECKS.badArgument("12 move: both " + store, () -> house.move(number, 0, store, store, 1));
        }
        for (int quantity : new int[] {-1, 0, 101, Integer.MIN_VALUE, Integer.MAX_VALUE}) {
            CHECKS.badArgument("12 move: quantity " + quantity, () -> house.move(number, 0, 0, 1, quantity));
        }
        for (int store = 0; store < 3; store++) {
            int same = store;
            CHECKS.badArgument("12 move: the same store", () -> house.move(number, 0, same, same, 1));
        }
        CHECKS.due("12 move: refused, so all is there", 100, () -> house.stored(0, 0));
        house.free(number, 0, 0, 60);
        CHECKS.badState("12 move: one more than there is", () -> house.move(number, 0, 0, 1, 41));
        CHECKS.due("12 move: refused, so all is there", 40, () -> house.stored(0, 0));
        CHECKS.due("12 move: refused, so nothing is here", 0, () -> house.stored(0, 1));
        CHECKS.due("12 move: just what there is", 40, () -> house.move(number, 0, 0, 1, 40));
    }

    private static void moveRefusesInOrder() {
        BorderHouse house = new BorderHouse();
        house.setGuarantee(0, 100);
        int number = Scenes.announced(house, 0, 3, new int[] {5, 0, 0, 0, 0, 0});
        for (int wrong : WRONG_NUMBERS) {
            CHECKS.noSuchOne("12 move: consignment " + wrong, () -> house.move(wrong, 0, 0, 1, 1));
            CHECKS.noSuchOne("12 move: consignment comes first", () -> house.move(wrong, 6, 3, 3, 0));
        }
        CHECKS.badArgument("12 move: sort before what it has", () -> house.move(number, 6, 0, 1, 1));
        CHECKS.badArgument("12 move: from before what it has", () -> house.move(number, 0, 3, 1, 1));
        CHECKS.badArgument("12 move: to before what it has", () -> house.move(number, 0, 0, 3, 1));
        CHECKS.badArgument("12 move: quantity before what it has", () -> house.move(number, 0, 0, 1, 101));
        CHECKS.badArgument("12 move: the same before what it has", () -> house.move(number, 0, 1, 1, 1));
        CHECKS.badState("12 move: under way", () -> house.move(number, 0, 0, 1, 1));
        house.arrive(number, 3);
        CHECKS.badState("12 move: at the door", () -> house.move(number, 0, 0, 1, 1));
        house.bond(number, 0);
        house.free(number, 0, 0, 5);
        CHECKS.badState("12 move: gone", () -> house.move(number, 0, 0, 1, 1));
    }

    private static void freePays() {
        BorderHouse house = new BorderHouse();
        house.setSort(3, 7, 0);
        int number = Scenes.inBond(house, 2, 3, 10, 1);
        CHECKS.due("13 free: the duty of one", 7, () -> house.free(number, 3, 1, 1));
        CHECKS.due("13 free: is paid", 7, () -> house.paid(2));
        CHECKS.due("13 free: by its trader", 0, () -> house.paid(0));
        CHECKS.due("13 free: held becomes less", 63, () -> house.held(2));
        CHECKS.due("13 free: stored becomes less", 9, () -> house.stored(3, 1));
        CHECKS.due("13 free: the manifest stays", 10, () -> house.manifest(number, 3));
        house.setSort(3, 50, 0);
        CHECKS.due("13 free: the duty as it was", 28, () -> house.free(number, 3, 1, 4));
        CHECKS.due("13 free: is added", 35, () -> house.paid(2));
        CHECKS.due("13 free: held", 35, () -> house.held(2));
        CHECKS.due("13 free: there is some", BorderHouse.IN_BOND, () -> house.state(number));
        CHECKS.due("13 free: the rest", 35, () -> house.free(number, 3, 1, 5));
        CHECKS.due("13 free: gone", BorderHouse.GONE, () -> house.state(number));
        CHECKS.due("13 free: nothing is held", 0, () -> house.held(2));
        CHECKS.due("13 free: all is paid", 70, () -> house.paid(2));
        house.setSort(5, 0, 0);
        int dutyFree = Scenes.inBond(house, 2, 5, 100, 1);
        CHECKS.due("13 free: no duty", 0, () -> house.free(dutyFree, 5, 1, 100));
        CHECKS.due("13 free: gone all the same", BorderHouse.GONE, () -> house.state(dutyFree));
    }

    private static void sendBackPaysNothing() {
        BorderHouse house = new BorderHouse();
        house.setSort(3, 7, 0);
        int number = Scenes.inBond(house, 2, 3, 10, 1);
        int other = Scenes.inBond(house, 2, 3, 1, 1);
        house.setSort(3, 0, 0);
        CHECKS.due("14 sendBack: by how much", 21, () -> house.sendBack(number, 3, 1, 3));
        CHECKS.due("14 sendBack: held becomes less", 56, () -> house.held(2));
        CHECKS.due("14 sendBack: nothing is paid", 0, () -> house.paid(2));
        CHECKS.due("14 sendBack: stored becomes less", 8, () -> house.stored(3, 1));
        CHECKS.due("14 sendBack: the manifest stays", 10, () -> house.manifest(number, 3));
        CHECKS.due("14 sendBack: there is some", BorderHouse.IN_BOND, () -> house.state(number));
        CHECKS.due("14 sendBack: the rest", 49, () -> house.sendBack(number, 3, 1, 7));
        CHECKS.due("14 sendBack: gone", BorderHouse.GONE, () -> house.state(number));
        CHECKS.due("14 sendBack: the other is not", BorderHouse.IN_BOND, () -> house.state(other));
        CHECKS.due("14 sendBack: held for the other", 7, () -> house.held(2));
    }

    private static void partsAndGone() {
        BorderHouse house = new BorderHouse();
        house.setGuarantee(0, 1000);
        house.setSort(1, 10, 0);
        int number = Scenes.announced(house, 0, 3, new int[] {2, 3, 0, 0, 0, 4});
        house.arrive(number, 3);
        CHECKS.due("13 free: held", 36, () -> house.bond(number, 2));
        house.move(number, 1, 2, 0, 2);
        CHECKS.due("13 free: one sort", 2, () -> house.free(number, 0, 2, 2));
        CHECKS.due("13 free: of this store alone", 10, () -> house.free(number, 1, 2, 1));
        CHECKS.due("14 sendBack: another sort", 4, () -> house.sendBack(number, 5, 2, 4));
        CHECKS.due("13 free: some is in another store", BorderHouse.IN_BOND, () -> house.state(number));
        CHECKS.due("18 held: for that", 20, () -> house.held(0));
        CHECKS.due("14 sendBack: the last but one", 10, () -> house.sendBack(number, 1, 0, 1));
        CHECKS.due("14 sendBack: one is left", BorderHouse.IN_BOND, () -> house.state(number));
        CHECKS.due("13 free: the last", 10, () -> house.free(number, 1, 0, 1));
        CHECKS.due("13 free: gone", BorderHouse.GONE, () -> house.state(number));
        CHECKS.due("19 paid: what was freed", 22, () -> house.paid(0));
        CHECKS.due("18 held: nothing", 0, () -> house.held(0));
    }

    private static void leavingRefuses(String name, Leaving leaving) {
        BorderHouse house = new BorderHouse();
        int number = Scenes.inBond(house, 0, 0, 10, 0);
        for (int wrong : WRONG_NUMBERS) {
            CHECKS.noSuchOne(name + ": consignment " + wrong, () -> leaving.out(house, wrong, 0, 0, 1));
            CHECKS.noSuchOne(name + ": consignment comes first", () -> leaving.out(house, wrong, 6, 3, 0));
        }
        for (int sort : new int[] {-1, 6, Integer.MIN_VALUE, Integer.MAX_VALUE}) {
            CHECKS.badArgument(name + ": sort " + sort, () -> leaving.out(house, number, sort, 0, 1));
        }
        for (int store : new int[] {-1, 3, Integer.MIN_VALUE, Integer.MAX_VALUE}) {
            CHECKS.badArgument(name + ": store " + store, () -> leaving.out(house, number, 0, store, 1));
        }
        for (int quantity : new int[] {-1, 0, 101, Integer.MIN_VALUE, Integer.MAX_VALUE}) {
            CHECKS.badArgument(name + ": quantity " + quantity, () -> leaving.out(house, number, 0, 0, quantity));
        }
        CHECKS.badState(name + ": one more than there is", () -> leaving.out(house, number, 0, 0, 11));
        CHECKS.badState(name + ": another store", () -> leaving.out(house, number, 0, 1, 1));
        CHECKS.badState(name + ": another sort", () -> leaving.out(house, number, 1, 0, 1));
        int other = Scenes.inBond(house, 0, 1, 10, 1);
        CHECKS.badState(name + ": another one's goods", () -> leaving.out(house, other, 0, 0, 1));
        CHECKS.due(name + ": refused, so stored", 10, () -> house.stored(0, 0));
        CHECKS.due(name + ": refused, so held", 20, () -> house.held(0));
        CHECKS.due(name + ": refused, so not paid", 0, () -> house.paid(0));
        CHECKS.due(name + ": just what there is", 10, () -> leaving.out(house, number, 0, 0, 10));
    }

    private static void leavingElsewhere(String name, Leaving leaving) {
        BorderHouse house = new BorderHouse();
        house.setGuarantee(0, 100);
        int number = Scenes.announced(house, 0, 3, new int[] {5, 0, 0, 0, 0, 0});
        CHECKS.badArgument(name + ": sort before what it has", () -> leaving.out(house, number, 6, 0, 1));
        CHECKS.badArgument(name + ": store before what it has", () -> leaving.out(house, number, 0, 3, 1));
        CHECKS.badArgument(name + ": quantity before what it has", () -> leaving.out(house, number, 0, 0, 101));
        CHECKS.badState(name + ": under way", () -> leaving.out(house, number, 0, 0, 1));
        house.arrive(number, 3);
        CHECKS.badState(name + ": at the door", () -> leaving.out(house, number, 0, 0, 1));
        house.bond(number, 0);
        CHECKS.due(name + ": in bond", 5, () -> leaving.out(house, number, 0, 0, 5));
        CHECKS.badState(name + ": gone", () -> leaving.out(house, number, 0, 0, 1));
        CHECKS.due(name + ": gone once", 0, () -> house.held(0));
    }
}
