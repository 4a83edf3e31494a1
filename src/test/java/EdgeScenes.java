/**
 * Scenes in which consignments stand in every state and sums stand just at their bounds, for the class
 * and the model alike. Consignment number n has the seal 100 + n.
 */
final class EdgeScenes {
    interface Scene {
        void set(Calls.Target target);
    }

    private EdgeScenes() {
    }

    /** As it was made. */
    static void untouched(Calls.Target target) {
    }

    /** Ten consignments; with a sample of 4 eight have come, so that 4 and 8 are samples. */
    static void mixed(Calls.Target target) {
        int[] weights = {0, 3, 0, 0, 5, 20};
        for (int sort = 0; sort < 6; sort++) {
            done(target, "setSort", sort, 10 * sort, weights[sort]);
        }
        done(target, "setRisk", 25, 4);
        for (int trader = 0; trader < 4; trader++) {
            done(target, "setGuarantee", trader, 1000000);
        }
        int[] traders = {0, 1, 0, 3, 1, 0, 1, 2, 3, 1};
        for (int number = 0; number < traders.length; number++) {
            done(target, "announce", traders[number], 100 + number);
        }
        manifest(target, 1, 1, 0, 5, 0, 0, 100);
        manifest(target, 2, 0, 5, 0, 0, 0, 0);
        manifest(target, 3, 5, 5, 0, 0, 0, 0);
        manifest(target, 4, 0, 0, 0, 1, 0, 0);
        manifest(target, 5, 6, 3, 0, 0, 1, 0);
        manifest(target, 6, 0, 0, 2, 0, 0, 0);
        manifest(target, 7, 0, 1, 0, 0, 0, 0);
        manifest(target, 8, 0, 0, 0, 0, 0, 1);
        manifest(target, 9, 0, 0, 0, 0, 0, 1);
        arriveInMixed(target);
        bondInMixed(target);
        // Just enough for 2, which owes 50 beside the 60 that are held; one too few for 7, which owes 10.
        done(target, "setGuarantee", 0, 110);
        done(target, "setGuarantee", 2, 9);
    }

    private static void arriveInMixed(Calls.Target target) {
        for (int number : new int[] {2, 3, 5, 4, 6, 7, 9, 8}) {
            done(target, "arrive", number, number == 3 ? 0 : 100 + number);
        }
        done(target, "search", 3, 0, 4);
        done(target, "search", 3, 5, 0);
        for (int sort = 0; sort < 6; sort++) {
            done(target, "search", 4, sort, sort == 3 ? 2 : 0);
        }
    }

    private static void bondInMixed(Calls.Target target) {
        done(target, "bond", 5, 0);
        done(target, "move", 5, 0, 0, 2, 1);
        done(target, "free", 5, 1, 0, 1);
        done(target, "bond", 6, 1);
        done(target, "free", 6, 2, 1, 1);
        done(target, "sendBack", 6, 2, 1, 1);
        done(target, "bond", 9, 1);
        // Lower than when 9 went into bond, so that what was taken down differs from what is.
        done(target, "setSort", 5, 40, 20);
    }

    /** Fifteen consignments full to the brim, all highest duties and weights, every guarantee held whole. */
    static void full(Calls.Target target) {
        for (int sort = 0; sort < 6; sort++) {
            done(target, "setSort", sort, 50, 20);
        }
        done(target, "setRisk", 200, 0);
        for (int trader = 0; trader < 4; trader++) {
            done(target, "setGuarantee", trader, 1000000);
        }
        for (int number = 0; number < 15; number++) {
            done(target, "announce", number % 4, 100 + number);
            manifest(target, number, 100, 100, 100, 100, 100, 100);
        }
        for (int number = 0; number < 12; number++) {
            done(target, "arrive", number, 100 + number);
            done(target, "bond", number, number % 3);
        }
        riskOf200(target, 12);
        sendAllBack(target, 14);
        for (int trader = 0; trader < 4; trader++) {
            done(target, "setGuarantee", trader, 90000);
        }
    }

    /** Six sorts of 20, a broken seal, and 25 amendments beyond the first one. */
    private static void riskOf200(Calls.Target target, int number) {
        for (int k = 0; k < 20; k++) {
            done(target, "amend", number, 0, 80 + k);
        }
        done(target, "arrive", number, 0);
    }

    private static void sendAllBack(Calls.Target target, int number) {
        done(target, "arrive", number, 100 + number);
        done(target, "bond", number, 0);
        for (int sort = 0; sort < 6; sort++) {
            done(target, "sendBack", number, sort, 0, 100);
        }
    }

    private static void manifest(Calls.Target target, int number, int... quantities) {
        for (int sort = 0; sort < 6; sort++) {
            if (quantities[sort] != 0) {
                done(target, "amend", number, sort, quantities[sort]);
            }
        }
    }

    /** A scene that is refused somewhere is another one than was meant. */
    private static void done(Calls.Target target, String name, int... args) {
        Object answer = target.call(name, args);
        if (answer instanceof String && ((String) answer).startsWith("throws.")) {
            throw new AssertionError(Calls.told(name, args) + " " + answer);
        }
    }
}
